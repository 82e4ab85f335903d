theorem xnd_SC_init_0 : decode xnc_SC_init 0 = .ok (.aload_n 0, 1) := by decide +kernel
theorem xnd_SC_init_1 : decode xnc_SC_init 1 = .ok (.invokespecial 1, 3) := by decide +kernel
theorem xnd_SC_init_4 : decode xnc_SC_init 4 = .ok (.aload_n 0, 1) := by decide +kernel
theorem xnd_SC_init_5 : decode xnc_SC_init 5 = .ok (.new 7, 3) := by decide +kernel
theorem xnd_SC_init_8 : decode xnc_SC_init 8 = .ok (.dup, 1) := by decide +kernel
theorem xnd_SC_init_9 : decode xnc_SC_init 9 = .ok (.invokespecial 9, 3) := by decide +kernel
theorem xnd_SC_init_12 : decode xnc_SC_init 12 = .ok (.putfield 10, 3) := by decide +kernel
theorem xnd_SC_init_15 : decode xnc_SC_init 15 = .ok (.aload_n 0, 1) := by decide +kernel
theorem xnd_SC_init_16 : decode xnc_SC_init 16 = .ok (.new 16, 3) := by decide +kernel
theorem xnd_SC_init_19 : decode xnc_SC_init 19 = .ok (.dup, 1) := by decide +kernel
theorem xnd_SC_init_20 : decode xnc_SC_init 20 = .ok (.iload_n 1, 1) := by decide +kernel
theorem xnd_SC_init_21 : decode xnc_SC_init 21 = .ok (.iconst 1, 1) := by decide +kernel
theorem xnd_SC_init_22 : decode xnc_SC_init 22 = .ok (.bipush 32, 2) := by decide +kernel
theorem xnd_SC_init_24 : decode xnc_SC_init 24 = .ok (.invokestatic 18, 3) := by decide +kernel
theorem xnd_SC_init_27 : decode xnc_SC_init 27 = .ok (.ifCond .eq 7, 3) := by decide +kernel
theorem xnd_SC_init_30 : decode xnc_SC_init 30 = .ok (.iload_n 1, 1) := by decide +kernel
theorem xnd_SC_init_31 : decode xnc_SC_init 31 = .ok (.goto 5, 3) := by decide +kernel
theorem xnd_SC_init_34 : decode xnc_SC_init 34 = .ok (.bipush 12, 2) := by decide +kernel
theorem xnd_SC_init_36 : decode xnc_SC_init 36 = .ok (.iload_n 2, 1) := by decide +kernel
theorem xnd_SC_init_37 : decode xnc_SC_init 37 = .ok (.iconst 1, 1) := by decide +kernel
theorem xnd_SC_init_38 : decode xnc_SC_init 38 = .ok (.iconst 4, 1) := by decide +kernel
theorem xnd_SC_init_39 : decode xnc_SC_init 39 = .ok (.invokestatic 18, 3) := by decide +kernel
theorem xnd_SC_init_42 : decode xnc_SC_init 42 = .ok (.ifCond .eq 7, 3) := by decide +kernel
theorem xnd_SC_init_45 : decode xnc_SC_init 45 = .ok (.iload_n 2, 1) := by decide +kernel
theorem xnd_SC_init_46 : decode xnc_SC_init 46 = .ok (.goto 4, 3) := by decide +kernel
theorem xnd_SC_init_49 : decode xnc_SC_init 49 = .ok (.iconst 2, 1) := by decide +kernel
theorem xnd_SC_init_50 : decode xnc_SC_init 50 = .ok (.aload_n 0, 1) := by decide +kernel
theorem xnd_SC_init_51 : decode xnc_SC_init 51 = .ok (.getfield 10, 3) := by decide +kernel
theorem xnd_SC_init_54 : decode xnc_SC_init 54 = .ok (.invokespecial 22, 3) := by decide +kernel
theorem xnd_SC_init_57 : decode xnc_SC_init 57 = .ok (.putfield 25, 3) := by decide +kernel
theorem xnd_SC_init_60 : decode xnc_SC_init 60 = .ok (.aload_n 0, 1) := by decide +kernel
theorem xnd_SC_init_61 : decode xnc_SC_init 61 = .ok (.new 29, 3) := by decide +kernel
theorem xnd_SC_init_64 : decode xnc_SC_init 64 = .ok (.dup, 1) := by decide +kernel
theorem xnd_SC_init_65 : decode xnc_SC_init 65 = .ok (.aload_n 0, 1) := by decide +kernel
theorem xnd_SC_init_66 : decode xnc_SC_init 66 = .ok (.getfield 25, 3) := by decide +kernel
theorem xnd_SC_init_69 : decode xnc_SC_init 69 = .ok (.aload_n 0, 1) := by decide +kernel
theorem xnd_SC_init_70 : decode xnc_SC_init 70 = .ok (.getfield 10, 3) := by decide +kernel
theorem xnd_SC_init_73 : decode xnc_SC_init 73 = .ok (.invokespecial 31, 3) := by decide +kernel
theorem xnd_SC_init_76 : decode xnc_SC_init 76 = .ok (.putfield 34, 3) := by decide +kernel
theorem xnd_SC_init_79 : decode xnc_SC_init 79 = .ok (.aload_n 0, 1) := by decide +kernel
theorem xnd_SC_init_80 : decode xnc_SC_init 80 = .ok (.iconst 3, 1) := by decide +kernel
theorem xnd_SC_init_81 : decode xnc_SC_init 81 = .ok (.anewarray 38, 3) := by decide +kernel
theorem xnd_SC_init_84 : decode xnc_SC_init 84 = .ok (.putfield 40, 3) := by decide +kernel
theorem xnd_SC_init_87 : decode xnc_SC_init 87 = .ok (.iconst 0, 1) := by decide +kernel
theorem xnd_SC_init_88 : decode xnc_SC_init 88 = .ok (.istore_n 3, 1) := by decide +kernel
theorem xnd_SC_init_89 : decode xnc_SC_init 89 = .ok (.iload_n 3, 1) := by decide +kernel
theorem xnd_SC_init_90 : decode xnc_SC_init 90 = .ok (.iconst 3, 1) := by decide +kernel
theorem xnd_SC_init_91 : decode xnc_SC_init 91 = .ok (.if_icmp .ge 34, 3) := by decide +kernel
theorem xnd_SC_init_94 : decode xnc_SC_init 94 = .ok (.aload_n 0, 1) := by decide +kernel
theorem xnd_SC_init_95 : decode xnc_SC_init 95 = .ok (.getfield 40, 3) := by decide +kernel
theorem xnd_SC_init_98 : decode xnc_SC_init 98 = .ok (.iload_n 3, 1) := by decide +kernel
theorem xnd_SC_init_99 : decode xnc_SC_init 99 = .ok (.new 38, 3) := by decide +kernel
theorem xnd_SC_init_102 : decode xnc_SC_init 102 = .ok (.dup, 1) := by decide +kernel
theorem xnd_SC_init_103 : decode xnc_SC_init 103 = .ok (.aload_n 0, 1) := by decide +kernel
theorem xnd_SC_init_104 : decode xnc_SC_init 104 = .ok (.getfield 25, 3) := by decide +kernel
theorem xnd_SC_init_107 : decode xnc_SC_init 107 = .ok (.aload_n 0, 1) := by decide +kernel
theorem xnd_SC_init_108 : decode xnc_SC_init 108 = .ok (.getfield 34, 3) := by decide +kernel
theorem xnd_SC_init_111 : decode xnc_SC_init 111 = .ok (.aload_n 0, 1) := by decide +kernel
theorem xnd_SC_init_112 : decode xnc_SC_init 112 = .ok (.getfield 10, 3) := by decide +kernel
theorem xnd_SC_init_115 : decode xnc_SC_init 115 = .ok (.invokespecial 44, 3) := by decide +kernel
theorem xnd_SC_init_118 : decode xnc_SC_init 118 = .ok (.aastore, 1) := by decide +kernel
theorem xnd_SC_init_119 : decode xnc_SC_init 119 = .ok (.iinc 3 1, 3) := by decide +kernel
theorem xnd_SC_init_122 : decode xnc_SC_init 122 = .ok (.goto (-33), 3) := by decide +kernel
theorem xnd_SC_init_125 : decode xnc_SC_init 125 = .ok (.return_, 1) := by decide +kernel
theorem xnd_TA_init_0 : decode xnc_TA_init 0 = .ok (.aload_n 0, 1) := by decide +kernel
theorem xnd_TA_init_1 : decode xnc_TA_init 1 = .ok (.invokespecial 1, 3) := by decide +kernel
theorem xnd_TA_init_4 : decode xnc_TA_init 4 = .ok (.return_, 1) := by decide +kernel
theorem xnd_SC_isWithin_0 : decode xnc_SC_isWithin 0 = .ok (.iload_n 0, 1) := by decide +kernel
theorem xnd_SC_isWithin_1 : decode xnc_SC_isWithin 1 = .ok (.iload_n 1, 1) := by decide +kernel
theorem xnd_SC_isWithin_2 : decode xnc_SC_isWithin 2 = .ok (.if_icmp .lt 12, 3) := by decide +kernel
theorem xnd_SC_isWithin_5 : decode xnc_SC_isWithin 5 = .ok (.iload_n 0, 1) := by decide +kernel
theorem xnd_SC_isWithin_6 : decode xnc_SC_isWithin 6 = .ok (.iload_n 2, 1) := by decide +kernel
theorem xnd_SC_isWithin_7 : decode xnc_SC_isWithin 7 = .ok (.if_icmp .gt 7, 3) := by decide +kernel
theorem xnd_SC_isWithin_10 : decode xnc_SC_isWithin 10 = .ok (.iconst 1, 1) := by decide +kernel
theorem xnd_SC_isWithin_11 : decode xnc_SC_isWithin 11 = .ok (.goto 4, 3) := by decide +kernel
theorem xnd_SC_isWithin_14 : decode xnc_SC_isWithin 14 = .ok (.iconst 0, 1) := by decide +kernel
theorem xnd_SC_isWithin_15 : decode xnc_SC_isWithin 15 = .ok (.ireturn, 1) := by decide +kernel
theorem xnd_ST_init_0 : decode xnc_ST_init 0 = .ok (.aload_n 0, 1) := by decide +kernel
theorem xnd_ST_init_1 : decode xnc_ST_init 1 = .ok (.invokespecial 3, 3) := by decide +kernel
theorem xnd_ST_init_4 : decode xnc_ST_init 4 = .ok (.aload_n 0, 1) := by decide +kernel
theorem xnd_ST_init_5 : decode xnc_ST_init 5 = .ok (.aload_n 3, 1) := by decide +kernel
theorem xnd_ST_init_6 : decode xnc_ST_init 6 = .ok (.putfield 9, 3) := by decide +kernel
theorem xnd_ST_init_9 : decode xnc_ST_init 9 = .ok (.aload_n 0, 1) := by decide +kernel
theorem xnd_ST_init_10 : decode xnc_ST_init 10 = .ok (.iload_n 1, 1) := by decide +kernel
theorem xnd_ST_init_11 : decode xnc_ST_init 11 = .ok (.putfield 15, 3) := by decide +kernel
theorem xnd_ST_init_14 : decode xnc_ST_init 14 = .ok (.aload_n 0, 1) := by decide +kernel
theorem xnd_ST_init_15 : decode xnc_ST_init 15 = .ok (.iload_n 2, 1) := by decide +kernel
theorem xnd_ST_init_16 : decode xnc_ST_init 16 = .ok (.putfield 19, 3) := by decide +kernel
theorem xnd_ST_init_19 : decode xnc_ST_init 19 = .ok (.aload_n 0, 1) := by decide +kernel
theorem xnd_ST_init_20 : decode xnc_ST_init 20 = .ok (.bipush 8, 2) := by decide +kernel
theorem xnd_ST_init_22 : decode xnc_ST_init 22 = .ok (.iload_n 2, 1) := by decide +kernel
theorem xnd_ST_init_23 : decode xnc_ST_init 23 = .ok (.imul, 1) := by decide +kernel
theorem xnd_ST_init_24 : decode xnc_ST_init 24 = .ok (.newarray .int, 2) := by decide +kernel
theorem xnd_ST_init_26 : decode xnc_ST_init 26 = .ok (.putfield 22, 3) := by decide +kernel
theorem xnd_ST_init_29 : decode xnc_ST_init 29 = .ok (.aload_n 0, 1) := by decide +kernel
theorem xnd_ST_init_30 : decode xnc_ST_init 30 = .ok (.getfield 22, 3) := by decide +kernel
theorem xnd_ST_init_33 : decode xnc_ST_init 33 = .ok (.iconst (-1), 1) := by decide +kernel
theorem xnd_ST_init_34 : decode xnc_ST_init 34 = .ok (.invokestatic 26, 3) := by decide +kernel
theorem xnd_ST_init_37 : decode xnc_ST_init 37 = .ok (.aload_n 0, 1) := by decide +kernel
theorem xnd_ST_init_38 : decode xnc_ST_init 38 = .ok (.iload_n 1, 1) := by decide +kernel
theorem xnd_ST_init_39 : decode xnc_ST_init 39 = .ok (.newarray .int, 2) := by decide +kernel
theorem xnd_ST_init_41 : decode xnc_ST_init 41 = .ok (.putfield 32, 3) := by decide +kernel
theorem xnd_ST_init_44 : decode xnc_ST_init 44 = .ok (.aload_n 0, 1) := by decide +kernel
theorem xnd_ST_init_45 : decode xnc_ST_init 45 = .ok (.iload_n 1, 1) := by decide +kernel
theorem xnd_ST_init_46 : decode xnc_ST_init 46 = .ok (.newarray .int, 2) := by decide +kernel
theorem xnd_ST_init_48 : decode xnc_ST_init 48 = .ok (.putfield 35, 3) := by decide +kernel
theorem xnd_ST_init_51 : decode xnc_ST_init 51 = .ok (.aload_n 0, 1) := by decide +kernel
theorem xnd_ST_init_52 : decode xnc_ST_init 52 = .ok (.iload_n 1, 1) := by decide +kernel
theorem xnd_ST_init_53 : decode xnc_ST_init 53 = .ok (.newarray .int, 2) := by decide +kernel
theorem xnd_ST_init_55 : decode xnc_ST_init 55 = .ok (.putfield 38, 3) := by decide +kernel
theorem xnd_ST_init_58 : decode xnc_ST_init 58 = .ok (.aload_n 0, 1) := by decide +kernel
theorem xnd_ST_init_59 : decode xnc_ST_init 59 = .ok (.iload_n 1, 1) := by decide +kernel
theorem xnd_ST_init_60 : decode xnc_ST_init 60 = .ok (.newarray .int, 2) := by decide +kernel
theorem xnd_ST_init_62 : decode xnc_ST_init 62 = .ok (.putfield 41, 3) := by decide +kernel
theorem xnd_ST_init_65 : decode xnc_ST_init 65 = .ok (.aload_n 0, 1) := by decide +kernel
theorem xnd_ST_init_66 : decode xnc_ST_init 66 = .ok (.iload_n 1, 1) := by decide +kernel
theorem xnd_ST_init_67 : decode xnc_ST_init 67 = .ok (.newarray .boolean, 2) := by decide +kernel
theorem xnd_ST_init_69 : decode xnc_ST_init 69 = .ok (.putfield 44, 3) := by decide +kernel
theorem xnd_ST_init_72 : decode xnc_ST_init 72 = .ok (.aload_n 0, 1) := by decide +kernel
theorem xnd_ST_init_73 : decode xnc_ST_init 73 = .ok (.iload_n 1, 1) := by decide +kernel
theorem xnd_ST_init_74 : decode xnc_ST_init 74 = .ok (.newarray .boolean, 2) := by decide +kernel
theorem xnd_ST_init_76 : decode xnc_ST_init 76 = .ok (.putfield 48, 3) := by decide +kernel
theorem xnd_ST_init_79 : decode xnc_ST_init 79 = .ok (.aload_n 0, 1) := by decide +kernel
theorem xnd_ST_init_80 : decode xnc_ST_init 80 = .ok (.iconst 4, 1) := by decide +kernel
theorem xnd_ST_init_81 : decode xnc_ST_init 81 = .ok (.newarray .int, 2) := by decide +kernel
theorem xnd_ST_init_83 : decode xnc_ST_init 83 = .ok (.putfield 51, 3) := by decide +kernel
theorem xnd_ST_init_86 : decode xnc_ST_init 86 = .ok (.return_, 1) := by decide +kernel
theorem xnd_AR_fill_0 : decode xnc_AR_fill 0 = .ok (.iconst 0, 1) := by decide +kernel
theorem xnd_AR_fill_1 : decode xnc_AR_fill 1 = .ok (.istore_n 2, 1) := by decide +kernel
theorem xnd_AR_fill_2 : decode xnc_AR_fill 2 = .ok (.aload_n 0, 1) := by decide +kernel
theorem xnd_AR_fill_3 : decode xnc_AR_fill 3 = .ok (.arraylength, 1) := by decide +kernel
theorem xnd_AR_fill_4 : decode xnc_AR_fill 4 = .ok (.istore_n 3, 1) := by decide +kernel
theorem xnd_AR_fill_5 : decode xnc_AR_fill 5 = .ok (.iload_n 2, 1) := by decide +kernel
theorem xnd_AR_fill_6 : decode xnc_AR_fill 6 = .ok (.iload_n 3, 1) := by decide +kernel
theorem xnd_AR_fill_7 : decode xnc_AR_fill 7 = .ok (.if_icmp .ge 13, 3) := by decide +kernel
theorem xnd_AR_fill_10 : decode xnc_AR_fill 10 = .ok (.aload_n 0, 1) := by decide +kernel
theorem xnd_AR_fill_11 : decode xnc_AR_fill 11 = .ok (.iload_n 2, 1) := by decide +kernel
theorem xnd_AR_fill_12 : decode xnc_AR_fill 12 = .ok (.iload_n 1, 1) := by decide +kernel
theorem xnd_AR_fill_13 : decode xnc_AR_fill 13 = .ok (.iastore, 1) := by decide +kernel
theorem xnd_AR_fill_14 : decode xnc_AR_fill 14 = .ok (.iinc 2 1, 3) := by decide +kernel
theorem xnd_AR_fill_17 : decode xnc_AR_fill 17 = .ok (.goto (-12), 3) := by decide +kernel
theorem xnd_AR_fill_20 : decode xnc_AR_fill 20 = .ok (.return_, 1) := by decide +kernel
theorem xnd_WR_init_0 : decode xnc_WR_init 0 = .ok (.aload_n 0, 1) := by decide +kernel
theorem xnd_WR_init_1 : decode xnc_WR_init 1 = .ok (.invokespecial 3, 3) := by decide +kernel
theorem xnd_WR_init_4 : decode xnc_WR_init 4 = .ok (.aload_n 0, 1) := by decide +kernel
theorem xnd_WR_init_5 : decode xnc_WR_init 5 = .ok (.aload_n 1, 1) := by decide +kernel
theorem xnd_WR_init_6 : decode xnc_WR_init 6 = .ok (.putfield 9, 3) := by decide +kernel
theorem xnd_WR_init_9 : decode xnc_WR_init 9 = .ok (.aload_n 0, 1) := by decide +kernel
theorem xnd_WR_init_10 : decode xnc_WR_init 10 = .ok (.aload_n 2, 1) := by decide +kernel
theorem xnd_WR_init_11 : decode xnc_WR_init 11 = .ok (.putfield 15, 3) := by decide +kernel
theorem xnd_WR_init_14 : decode xnc_WR_init 14 = .ok (.aload_n 0, 1) := by decide +kernel
theorem xnd_WR_init_15 : decode xnc_WR_init 15 = .ok (.new 19, 3) := by decide +kernel
theorem xnd_WR_init_18 : decode xnc_WR_init 18 = .ok (.dup, 1) := by decide +kernel
theorem xnd_WR_init_19 : decode xnc_WR_init 19 = .ok (.aload_n 1, 1) := by decide +kernel
theorem xnd_WR_init_20 : decode xnc_WR_init 20 = .ok (.invokespecial 21, 3) := by decide +kernel
theorem xnd_WR_init_23 : decode xnc_WR_init 23 = .ok (.putfield 24, 3) := by decide +kernel
theorem xnd_WR_init_26 : decode xnc_WR_init 26 = .ok (.aload_n 0, 1) := by decide +kernel
theorem xnd_WR_init_27 : decode xnc_WR_init 27 = .ok (.iconst (-1), 1) := by decide +kernel
theorem xnd_WR_init_28 : decode xnc_WR_init 28 = .ok (.putfield 28, 3) := by decide +kernel
theorem xnd_WR_init_31 : decode xnc_WR_init 31 = .ok (.return_, 1) := by decide +kernel
theorem xnd_PA_init_0 : decode xnc_PA_init 0 = .ok (.aload_n 0, 1) := by decide +kernel
theorem xnd_PA_init_1 : decode xnc_PA_init 1 = .ok (.invokespecial 3, 3) := by decide +kernel
theorem xnd_PA_init_4 : decode xnc_PA_init 4 = .ok (.aload_n 0, 1) := by decide +kernel
theorem xnd_PA_init_5 : decode xnc_PA_init 5 = .ok (.aload_n 1, 1) := by decide +kernel
theorem xnd_PA_init_6 : decode xnc_PA_init 6 = .ok (.putfield 9, 3) := by decide +kernel
theorem xnd_PA_init_9 : decode xnc_PA_init 9 = .ok (.aload_n 0, 1) := by decide +kernel
theorem xnd_PA_init_10 : decode xnc_PA_init 10 = .ok (.iconst 5, 1) := by decide +kernel
theorem xnd_PA_init_11 : decode xnc_PA_init 11 = .ok (.newarray .int, 2) := by decide +kernel
theorem xnd_PA_init_13 : decode xnc_PA_init 13 = .ok (.putfield 15, 3) := by decide +kernel
theorem xnd_PA_init_16 : decode xnc_PA_init 16 = .ok (.aload_n 0, 1) := by decide +kernel
theorem xnd_PA_init_17 : decode xnc_PA_init 17 = .ok (.aload_n 1, 1) := by decide +kernel
theorem xnd_PA_init_18 : decode xnc_PA_init 18 = .ok (.getfield 19, 3) := by decide +kernel
theorem xnd_PA_init_21 : decode xnc_PA_init 21 = .ok (.arraylength, 1) := by decide +kernel
theorem xnd_PA_init_22 : decode xnc_PA_init 22 = .ok (.newarray .int, 2) := by decide +kernel
theorem xnd_PA_init_24 : decode xnc_PA_init 24 = .ok (.putfield 24, 3) := by decide +kernel
theorem xnd_PA_init_27 : decode xnc_PA_init 27 = .ok (.aload_n 0, 1) := by decide +kernel
theorem xnd_PA_init_28 : decode xnc_PA_init 28 = .ok (.aload_n 1, 1) := by decide +kernel
theorem xnd_PA_init_29 : decode xnc_PA_init 29 = .ok (.getfield 19, 3) := by decide +kernel
theorem xnd_PA_init_32 : decode xnc_PA_init 32 = .ok (.arraylength, 1) := by decide +kernel
theorem xnd_PA_init_33 : decode xnc_PA_init 33 = .ok (.newarray .int, 2) := by decide +kernel
theorem xnd_PA_init_35 : decode xnc_PA_init 35 = .ok (.putfield 27, 3) := by decide +kernel
theorem xnd_PA_init_38 : decode xnc_PA_init 38 = .ok (.aload_n 0, 1) := by decide +kernel
theorem xnd_PA_init_39 : decode xnc_PA_init 39 = .ok (.aload_n 1, 1) := by decide +kernel
theorem xnd_PA_init_40 : decode xnc_PA_init 40 = .ok (.getfield 19, 3) := by decide +kernel
theorem xnd_PA_init_43 : decode xnc_PA_init 43 = .ok (.arraylength, 1) := by decide +kernel
theorem xnd_PA_init_44 : decode xnc_PA_init 44 = .ok (.newarray .int, 2) := by decide +kernel
theorem xnd_PA_init_46 : decode xnc_PA_init 46 = .ok (.putfield 30, 3) := by decide +kernel
theorem xnd_PA_init_49 : decode xnc_PA_init 49 = .ok (.return_, 1) := by decide +kernel
theorem xnd_RD_init_0 : decode xnc_RD_init 0 = .ok (.aload_n 0, 1) := by decide +kernel
theorem xnd_RD_init_1 : decode xnc_RD_init 1 = .ok (.invokespecial 3, 3) := by decide +kernel
theorem xnd_RD_init_4 : decode xnc_RD_init 4 = .ok (.aload_n 0, 1) := by decide +kernel
theorem xnd_RD_init_5 : decode xnc_RD_init 5 = .ok (.aload_n 1, 1) := by decide +kernel
theorem xnd_RD_init_6 : decode xnc_RD_init 6 = .ok (.putfield 9, 3) := by decide +kernel
theorem xnd_RD_init_9 : decode xnc_RD_init 9 = .ok (.aload_n 0, 1) := by decide +kernel
theorem xnd_RD_init_10 : decode xnc_RD_init 10 = .ok (.aload_n 2, 1) := by decide +kernel
theorem xnd_RD_init_11 : decode xnc_RD_init 11 = .ok (.putfield 15, 3) := by decide +kernel
theorem xnd_RD_init_14 : decode xnc_RD_init 14 = .ok (.aload_n 0, 1) := by decide +kernel
theorem xnd_RD_init_15 : decode xnc_RD_init 15 = .ok (.aload_n 3, 1) := by decide +kernel
theorem xnd_RD_init_16 : decode xnc_RD_init 16 = .ok (.putfield 19, 3) := by decide +kernel
theorem xnd_RD_init_19 : decode xnc_RD_init 19 = .ok (.return_, 1) := by decide +kernel
theorem xnd_SC_write_0 : decode xnc_SC_write 0 = .ok (.aload_n 0, 1) := by decide +kernel
theorem xnd_SC_write_1 : decode xnc_SC_write 1 = .ok (.getfield 34, 3) := by decide +kernel
theorem xnd_SC_write_4 : decode xnc_SC_write 4 = .ok (.invokevirtual 47, 3) := by decide +kernel
theorem xnd_SC_write_7 : decode xnc_SC_write 7 = .ok (.ifCond .ne 24, 3) := by decide +kernel
theorem xnd_SC_write_10 : decode xnc_SC_write 10 = .ok (.iload_n 1, 1) := by decide +kernel
theorem xnd_SC_write_11 : decode xnc_SC_write 11 = .ok (.iconst 0, 1) := by decide +kernel
theorem xnd_SC_write_12 : decode xnc_SC_write 12 = .ok (.iconst 4, 1) := by decide +kernel
theorem xnd_SC_write_13 : decode xnc_SC_write 13 = .ok (.invokestatic 18, 3) := by decide +kernel
theorem xnd_SC_write_16 : decode xnc_SC_write 16 = .ok (.ifCond .eq 15, 3) := by decide +kernel
theorem xnd_SC_write_19 : decode xnc_SC_write 19 = .ok (.iload 4, 2) := by decide +kernel
theorem xnd_SC_write_21 : decode xnc_SC_write 21 = .ok (.iconst 0, 1) := by decide +kernel
theorem xnd_SC_write_22 : decode xnc_SC_write 22 = .ok (.sipush 1000, 3) := by decide +kernel
theorem xnd_SC_write_25 : decode xnc_SC_write 25 = .ok (.invokestatic 18, 3) := by decide +kernel
theorem xnd_SC_write_28 : decode xnc_SC_write 28 = .ok (.ifCond .ne 5, 3) := by decide +kernel
theorem xnd_SC_write_31 : decode xnc_SC_write 31 = .ok (.iconst 0, 1) := by decide +kernel
theorem xnd_SC_write_32 : decode xnc_SC_write 32 = .ok (.ireturn, 1) := by decide +kernel
theorem xnd_SC_write_33 : decode xnc_SC_write 33 = .ok (.aload_n 0, 1) := by decide +kernel
theorem xnd_SC_write_34 : decode xnc_SC_write 34 = .ok (.getfield 34, 3) := by decide +kernel
theorem xnd_SC_write_37 : decode xnc_SC_write 37 = .ok (.iload_n 1, 1) := by decide +kernel
theorem xnd_SC_write_38 : decode xnc_SC_write 38 = .ok (.iload_n 2, 1) := by decide +kernel
theorem xnd_SC_write_39 : decode xnc_SC_write 39 = .ok (.iload_n 3, 1) := by decide +kernel
theorem xnd_SC_write_40 : decode xnc_SC_write 40 = .ok (.iload 4, 2) := by decide +kernel
theorem xnd_SC_write_42 : decode xnc_SC_write 42 = .ok (.iload 5, 2) := by decide +kernel
theorem xnd_SC_write_44 : decode xnc_SC_write 44 = .ok (.invokevirtual 51, 3) := by decide +kernel
theorem xnd_SC_write_47 : decode xnc_SC_write 47 = .ok (.iconst 1, 1) := by decide +kernel
theorem xnd_SC_write_48 : decode xnc_SC_write 48 = .ok (.ireturn, 1) := by decide +kernel
theorem xnd_WR_isUnderWay_0 : decode xnc_WR_isUnderWay 0 = .ok (.aload_n 0, 1) := by decide +kernel
theorem xnd_WR_isUnderWay_1 : decode xnc_WR_isUnderWay 1 = .ok (.getfield 28, 3) := by decide +kernel
theorem xnd_WR_isUnderWay_4 : decode xnc_WR_isUnderWay 4 = .ok (.ifCond .ne 7, 3) := by decide +kernel
theorem xnd_WR_isUnderWay_7 : decode xnc_WR_isUnderWay 7 = .ok (.iconst 1, 1) := by decide +kernel
theorem xnd_WR_isUnderWay_8 : decode xnc_WR_isUnderWay 8 = .ok (.goto 4, 3) := by decide +kernel
theorem xnd_WR_isUnderWay_11 : decode xnc_WR_isUnderWay 11 = .ok (.iconst 0, 1) := by decide +kernel
theorem xnd_WR_isUnderWay_12 : decode xnc_WR_isUnderWay 12 = .ok (.ireturn, 1) := by decide +kernel
theorem xnd_WR_begin_0 : decode xnc_WR_begin 0 = .ok (.aload_n 0, 1) := by decide +kernel
theorem xnd_WR_begin_1 : decode xnc_WR_begin 1 = .ok (.iload_n 1, 1) := by decide +kernel
theorem xnd_WR_begin_2 : decode xnc_WR_begin 2 = .ok (.putfield 32, 3) := by decide +kernel
theorem xnd_WR_begin_5 : decode xnc_WR_begin 5 = .ok (.aload_n 0, 1) := by decide +kernel
theorem xnd_WR_begin_6 : decode xnc_WR_begin 6 = .ok (.iload_n 2, 1) := by decide +kernel
theorem xnd_WR_begin_7 : decode xnc_WR_begin 7 = .ok (.putfield 35, 3) := by decide +kernel
theorem xnd_WR_begin_10 : decode xnc_WR_begin 10 = .ok (.aload_n 0, 1) := by decide +kernel
theorem xnd_WR_begin_11 : decode xnc_WR_begin 11 = .ok (.iload_n 3, 1) := by decide +kernel
theorem xnd_WR_begin_12 : decode xnc_WR_begin 12 = .ok (.putfield 38, 3) := by decide +kernel
theorem xnd_WR_begin_15 : decode xnc_WR_begin 15 = .ok (.aload_n 0, 1) := by decide +kernel
theorem xnd_WR_begin_16 : decode xnc_WR_begin 16 = .ok (.iload 4, 2) := by decide +kernel
theorem xnd_WR_begin_18 : decode xnc_WR_begin 18 = .ok (.putfield 41, 3) := by decide +kernel
theorem xnd_WR_begin_21 : decode xnc_WR_begin 21 = .ok (.aload_n 0, 1) := by decide +kernel
theorem xnd_WR_begin_22 : decode xnc_WR_begin 22 = .ok (.iload 5, 2) := by decide +kernel
theorem xnd_WR_begin_24 : decode xnc_WR_begin 24 = .ok (.putfield 44, 3) := by decide +kernel
theorem xnd_WR_begin_27 : decode xnc_WR_begin 27 = .ok (.aload_n 0, 1) := by decide +kernel
theorem xnd_WR_begin_28 : decode xnc_WR_begin 28 = .ok (.iconst 0, 1) := by decide +kernel
theorem xnd_WR_begin_29 : decode xnc_WR_begin 29 = .ok (.putfield 28, 3) := by decide +kernel
theorem xnd_WR_begin_32 : decode xnc_WR_begin 32 = .ok (.aload_n 0, 1) := by decide +kernel
theorem xnd_WR_begin_33 : decode xnc_WR_begin 33 = .ok (.iconst 0, 1) := by decide +kernel
theorem xnd_WR_begin_34 : decode xnc_WR_begin 34 = .ok (.putfield 47, 3) := by decide +kernel
theorem xnd_WR_begin_37 : decode xnc_WR_begin 37 = .ok (.return_, 1) := by decide +kernel
theorem xnd_SC_work_0 : decode xnc_SC_work 0 = .ok (.iconst 0, 1) := by decide +kernel
theorem xnd_SC_work_1 : decode xnc_SC_work 1 = .ok (.istore_n 2, 1) := by decide +kernel
theorem xnd_SC_work_2 : decode xnc_SC_work 2 = .ok (.iload_n 1, 1) := by decide +kernel
theorem xnd_SC_work_3 : decode xnc_SC_work 3 = .ok (.iconst 1, 1) := by decide +kernel
theorem xnd_SC_work_4 : decode xnc_SC_work 4 = .ok (.bipush 50, 2) := by decide +kernel
theorem xnd_SC_work_6 : decode xnc_SC_work 6 = .ok (.invokestatic 18, 3) := by decide +kernel
theorem xnd_SC_work_9 : decode xnc_SC_work 9 = .ok (.ifCond .eq 31, 3) := by decide +kernel
theorem xnd_SC_work_12 : decode xnc_SC_work 12 = .ok (.iload_n 2, 1) := by decide +kernel
theorem xnd_SC_work_13 : decode xnc_SC_work 13 = .ok (.iload_n 1, 1) := by decide +kernel
theorem xnd_SC_work_14 : decode xnc_SC_work 14 = .ok (.if_icmp .ge 26, 3) := by decide +kernel
theorem xnd_SC_work_17 : decode xnc_SC_work 17 = .ok (.aload_n 0, 1) := by decide +kernel
theorem xnd_SC_work_18 : decode xnc_SC_work 18 = .ok (.getfield 34, 3) := by decide +kernel
theorem xnd_SC_work_21 : decode xnc_SC_work 21 = .ok (.invokevirtual 47, 3) := by decide +kernel
theorem xnd_SC_work_24 : decode xnc_SC_work 24 = .ok (.ifCond .eq 16, 3) := by decide +kernel
theorem xnd_SC_work_27 : decode xnc_SC_work 27 = .ok (.aload_n 0, 1) := by decide +kernel
theorem xnd_SC_work_28 : decode xnc_SC_work 28 = .ok (.getfield 34, 3) := by decide +kernel
theorem xnd_SC_work_31 : decode xnc_SC_work 31 = .ok (.invokevirtual 55, 3) := by decide +kernel
theorem xnd_SC_work_34 : decode xnc_SC_work 34 = .ok (.iinc 2 1, 3) := by decide +kernel
theorem xnd_SC_work_37 : decode xnc_SC_work 37 = .ok (.goto (-25), 3) := by decide +kernel
theorem xnd_SC_work_40 : decode xnc_SC_work 40 = .ok (.iload_n 2, 1) := by decide +kernel
theorem xnd_SC_work_41 : decode xnc_SC_work 41 = .ok (.ireturn, 1) := by decide +kernel
theorem xnd_WR_goOn_0 : decode xnc_WR_goOn 0 = .ok (.aload_n 0, 1) := by decide +kernel
theorem xnd_WR_goOn_1 : decode xnc_WR_goOn 1 = .ok (.getfield 47, 3) := by decide +kernel
theorem xnd_WR_goOn_4 : decode xnc_WR_goOn 4 = .ok (.tableswitch 93 0 6 #[44, 51, 58, 65, 72, 79, 86], 44) := by decide +kernel
theorem xnd_WR_goOn_48 : decode xnc_WR_goOn 48 = .ok (.aload_n 0, 1) := by decide +kernel
theorem xnd_WR_goOn_49 : decode xnc_WR_goOn 49 = .ok (.invokevirtual 50, 3) := by decide +kernel
theorem xnd_WR_goOn_52 : decode xnc_WR_goOn 52 = .ok (.goto 49, 3) := by decide +kernel
theorem xnd_WR_goOn_55 : decode xnc_WR_goOn 55 = .ok (.aload_n 0, 1) := by decide +kernel
theorem xnd_WR_goOn_56 : decode xnc_WR_goOn 56 = .ok (.invokevirtual 53, 3) := by decide +kernel
theorem xnd_WR_goOn_59 : decode xnc_WR_goOn 59 = .ok (.goto 42, 3) := by decide +kernel
theorem xnd_WR_goOn_62 : decode xnc_WR_goOn 62 = .ok (.aload_n 0, 1) := by decide +kernel
theorem xnd_WR_goOn_63 : decode xnc_WR_goOn 63 = .ok (.invokevirtual 56, 3) := by decide +kernel
theorem xnd_WR_goOn_66 : decode xnc_WR_goOn 66 = .ok (.goto 35, 3) := by decide +kernel
theorem xnd_WR_goOn_69 : decode xnc_WR_goOn 69 = .ok (.aload_n 0, 1) := by decide +kernel
theorem xnd_WR_goOn_70 : decode xnc_WR_goOn 70 = .ok (.invokevirtual 59, 3) := by decide +kernel
theorem xnd_WR_goOn_73 : decode xnc_WR_goOn 73 = .ok (.goto 28, 3) := by decide +kernel
theorem xnd_WR_goOn_76 : decode xnc_WR_goOn 76 = .ok (.aload_n 0, 1) := by decide +kernel
theorem xnd_WR_goOn_77 : decode xnc_WR_goOn 77 = .ok (.invokevirtual 62, 3) := by decide +kernel
theorem xnd_WR_goOn_80 : decode xnc_WR_goOn 80 = .ok (.goto 21, 3) := by decide +kernel
theorem xnd_WR_goOn_83 : decode xnc_WR_goOn 83 = .ok (.aload_n 0, 1) := by decide +kernel
theorem xnd_WR_goOn_84 : decode xnc_WR_goOn 84 = .ok (.invokevirtual 65, 3) := by decide +kernel
theorem xnd_WR_goOn_87 : decode xnc_WR_goOn 87 = .ok (.goto 14, 3) := by decide +kernel
theorem xnd_WR_goOn_90 : decode xnc_WR_goOn 90 = .ok (.aload_n 0, 1) := by decide +kernel
theorem xnd_WR_goOn_91 : decode xnc_WR_goOn 91 = .ok (.invokevirtual 68, 3) := by decide +kernel
theorem xnd_WR_goOn_94 : decode xnc_WR_goOn 94 = .ok (.goto 7, 3) := by decide +kernel
theorem xnd_WR_goOn_97 : decode xnc_WR_goOn 97 = .ok (.aload_n 0, 1) := by decide +kernel
theorem xnd_WR_goOn_98 : decode xnc_WR_goOn 98 = .ok (.invokevirtual 71, 3) := by decide +kernel
theorem xnd_WR_goOn_101 : decode xnc_WR_goOn 101 = .ok (.return_, 1) := by decide +kernel
theorem xnd_WR_lookUpKey_0 : decode xnc_WR_lookUpKey 0 = .ok (.aload_n 0, 1) := by decide +kernel
theorem xnd_WR_lookUpKey_1 : decode xnc_WR_lookUpKey 1 = .ok (.getfield 9, 3) := by decide +kernel
theorem xnd_WR_lookUpKey_4 : decode xnc_WR_lookUpKey 4 = .ok (.aload_n 0, 1) := by decide +kernel
theorem xnd_WR_lookUpKey_5 : decode xnc_WR_lookUpKey 5 = .ok (.getfield 35, 3) := by decide +kernel
theorem xnd_WR_lookUpKey_8 : decode xnc_WR_lookUpKey 8 = .ok (.invokevirtual 74, 3) := by decide +kernel
theorem xnd_WR_lookUpKey_11 : decode xnc_WR_lookUpKey 11 = .ok (.istore_n 1, 1) := by decide +kernel
theorem xnd_WR_lookUpKey_12 : decode xnc_WR_lookUpKey 12 = .ok (.iload_n 1, 1) := by decide +kernel
theorem xnd_WR_lookUpKey_13 : decode xnc_WR_lookUpKey 13 = .ok (.iconst (-1), 1) := by decide +kernel
theorem xnd_WR_lookUpKey_14 : decode xnc_WR_lookUpKey 14 = .ok (.if_icmp .eq 15, 3) := by decide +kernel
theorem xnd_WR_lookUpKey_17 : decode xnc_WR_lookUpKey 17 = .ok (.aload_n 0, 1) := by decide +kernel
theorem xnd_WR_lookUpKey_18 : decode xnc_WR_lookUpKey 18 = .ok (.getfield 9, 3) := by decide +kernel
theorem xnd_WR_lookUpKey_21 : decode xnc_WR_lookUpKey 21 = .ok (.getfield 80, 3) := by decide +kernel
theorem xnd_WR_lookUpKey_24 : decode xnc_WR_lookUpKey 24 = .ok (.iload_n 1, 1) := by decide +kernel
theorem xnd_WR_lookUpKey_25 : decode xnc_WR_lookUpKey 25 = .ok (.iaload, 1) := by decide +kernel
theorem xnd_WR_lookUpKey_26 : decode xnc_WR_lookUpKey 26 = .ok (.goto 4, 3) := by decide +kernel
theorem xnd_WR_lookUpKey_29 : decode xnc_WR_lookUpKey 29 = .ok (.iconst (-1), 1) := by decide +kernel
theorem xnd_WR_lookUpKey_30 : decode xnc_WR_lookUpKey 30 = .ok (.istore_n 2, 1) := by decide +kernel
theorem xnd_WR_lookUpKey_31 : decode xnc_WR_lookUpKey 31 = .ok (.iload_n 2, 1) := by decide +kernel
theorem xnd_WR_lookUpKey_32 : decode xnc_WR_lookUpKey 32 = .ok (.iconst (-1), 1) := by decide +kernel
theorem xnd_WR_lookUpKey_33 : decode xnc_WR_lookUpKey 33 = .ok (.if_icmp .eq 45, 3) := by decide +kernel
theorem xnd_WR_lookUpKey_36 : decode xnc_WR_lookUpKey 36 = .ok (.aload_n 0, 1) := by decide +kernel
theorem xnd_WR_lookUpKey_37 : decode xnc_WR_lookUpKey 37 = .ok (.getfield 9, 3) := by decide +kernel
theorem xnd_WR_lookUpKey_40 : decode xnc_WR_lookUpKey 40 = .ok (.aload_n 0, 1) := by decide +kernel
theorem xnd_WR_lookUpKey_41 : decode xnc_WR_lookUpKey 41 = .ok (.getfield 9, 3) := by decide +kernel
theorem xnd_WR_lookUpKey_44 : decode xnc_WR_lookUpKey 44 = .ok (.getfield 84, 3) := by decide +kernel
theorem xnd_WR_lookUpKey_47 : decode xnc_WR_lookUpKey 47 = .ok (.iload_n 2, 1) := by decide +kernel
theorem xnd_WR_lookUpKey_48 : decode xnc_WR_lookUpKey 48 = .ok (.iaload, 1) := by decide +kernel
theorem xnd_WR_lookUpKey_49 : decode xnc_WR_lookUpKey 49 = .ok (.invokevirtual 87, 3) := by decide +kernel
theorem xnd_WR_lookUpKey_52 : decode xnc_WR_lookUpKey 52 = .ok (.ifCond .eq 26, 3) := by decide +kernel
theorem xnd_WR_lookUpKey_55 : decode xnc_WR_lookUpKey 55 = .ok (.aload_n 0, 1) := by decide +kernel
theorem xnd_WR_lookUpKey_56 : decode xnc_WR_lookUpKey 56 = .ok (.getfield 9, 3) := by decide +kernel
theorem xnd_WR_lookUpKey_59 : decode xnc_WR_lookUpKey 59 = .ok (.iload_n 2, 1) := by decide +kernel
theorem xnd_WR_lookUpKey_60 : decode xnc_WR_lookUpKey 60 = .ok (.invokevirtual 91, 3) := by decide +kernel
theorem xnd_WR_lookUpKey_63 : decode xnc_WR_lookUpKey 63 = .ok (.aload_n 0, 1) := by decide +kernel
theorem xnd_WR_lookUpKey_64 : decode xnc_WR_lookUpKey 64 = .ok (.getfield 15, 3) := by decide +kernel
theorem xnd_WR_lookUpKey_67 : decode xnc_WR_lookUpKey 67 = .ok (.dup, 1) := by decide +kernel
theorem xnd_WR_lookUpKey_68 : decode xnc_WR_lookUpKey 68 = .ok (.getfield 95, 3) := by decide +kernel
theorem xnd_WR_lookUpKey_71 : decode xnc_WR_lookUpKey 71 = .ok (.iconst 1, 1) := by decide +kernel
theorem xnd_WR_lookUpKey_72 : decode xnc_WR_lookUpKey 72 = .ok (.iadd, 1) := by decide +kernel
theorem xnd_WR_lookUpKey_73 : decode xnc_WR_lookUpKey 73 = .ok (.putfield 95, 3) := by decide +kernel
theorem xnd_WR_lookUpKey_76 : decode xnc_WR_lookUpKey 76 = .ok (.iconst (-1), 1) := by decide +kernel
theorem xnd_WR_lookUpKey_77 : decode xnc_WR_lookUpKey 77 = .ok (.istore_n 2, 1) := by decide +kernel
theorem xnd_WR_lookUpKey_78 : decode xnc_WR_lookUpKey 78 = .ok (.iload_n 2, 1) := by decide +kernel
theorem xnd_WR_lookUpKey_79 : decode xnc_WR_lookUpKey 79 = .ok (.iconst (-1), 1) := by decide +kernel
theorem xnd_WR_lookUpKey_80 : decode xnc_WR_lookUpKey 80 = .ok (.if_icmp .eq 11, 3) := by decide +kernel
theorem xnd_WR_lookUpKey_83 : decode xnc_WR_lookUpKey 83 = .ok (.aload_n 0, 1) := by decide +kernel
theorem xnd_WR_lookUpKey_84 : decode xnc_WR_lookUpKey 84 = .ok (.iload_n 2, 1) := by decide +kernel
theorem xnd_WR_lookUpKey_85 : decode xnc_WR_lookUpKey 85 = .ok (.invokevirtual 100, 3) := by decide +kernel
theorem xnd_WR_lookUpKey_88 : decode xnc_WR_lookUpKey 88 = .ok (.goto 7, 3) := by decide +kernel
theorem xnd_WR_lookUpKey_91 : decode xnc_WR_lookUpKey 91 = .ok (.aload_n 0, 1) := by decide +kernel
theorem xnd_WR_lookUpKey_92 : decode xnc_WR_lookUpKey 92 = .ok (.invokevirtual 103, 3) := by decide +kernel
theorem xnd_WR_lookUpKey_95 : decode xnc_WR_lookUpKey 95 = .ok (.return_, 1) := by decide +kernel
theorem xnd_ST_lookUp_0 : decode xnc_ST_lookUp 0 = .ok (.aload_n 0, 1) := by decide +kernel
theorem xnd_ST_lookUp_1 : decode xnc_ST_lookUp 1 = .ok (.iload_n 1, 1) := by decide +kernel
theorem xnd_ST_lookUp_2 : decode xnc_ST_lookUp 2 = .ok (.invokestatic 60, 3) := by decide +kernel
theorem xnd_ST_lookUp_5 : decode xnc_ST_lookUp 5 = .ok (.iload_n 1, 1) := by decide +kernel
theorem xnd_ST_lookUp_6 : decode xnc_ST_lookUp 6 = .ok (.invokevirtual 71, 3) := by decide +kernel
theorem xnd_ST_lookUp_9 : decode xnc_ST_lookUp 9 = .ok (.istore_n 2, 1) := by decide +kernel
theorem xnd_ST_lookUp_10 : decode xnc_ST_lookUp 10 = .ok (.iload_n 2, 1) := by decide +kernel
theorem xnd_ST_lookUp_11 : decode xnc_ST_lookUp 11 = .ok (.iconst (-1), 1) := by decide +kernel
theorem xnd_ST_lookUp_12 : decode xnc_ST_lookUp 12 = .ok (.if_icmp .eq 7, 3) := by decide +kernel
theorem xnd_ST_lookUp_15 : decode xnc_ST_lookUp 15 = .ok (.iload_n 2, 1) := by decide +kernel
theorem xnd_ST_lookUp_16 : decode xnc_ST_lookUp 16 = .ok (.goto 12, 3) := by decide +kernel
theorem xnd_ST_lookUp_19 : decode xnc_ST_lookUp 19 = .ok (.aload_n 0, 1) := by decide +kernel
theorem xnd_ST_lookUp_20 : decode xnc_ST_lookUp 20 = .ok (.iload_n 1, 1) := by decide +kernel
theorem xnd_ST_lookUp_21 : decode xnc_ST_lookUp 21 = .ok (.invokestatic 68, 3) := by decide +kernel
theorem xnd_ST_lookUp_24 : decode xnc_ST_lookUp 24 = .ok (.iload_n 1, 1) := by decide +kernel
theorem xnd_ST_lookUp_25 : decode xnc_ST_lookUp 25 = .ok (.invokevirtual 71, 3) := by decide +kernel
theorem xnd_ST_lookUp_28 : decode xnc_ST_lookUp 28 = .ok (.ireturn, 1) := by decide +kernel
theorem xnd_SC_firstBucket_0 : decode xnc_SC_firstBucket 0 = .ok (.iload_n 0, 1) := by decide +kernel
theorem xnd_SC_firstBucket_1 : decode xnc_SC_firstBucket 1 = .ok (.invokestatic 162, 3) := by decide +kernel
theorem xnd_SC_firstBucket_4 : decode xnc_SC_firstBucket 4 = .ok (.bipush 25, 2) := by decide +kernel
theorem xnd_SC_firstBucket_6 : decode xnc_SC_firstBucket 6 = .ok (.iushr, 1) := by decide +kernel
theorem xnd_SC_firstBucket_7 : decode xnc_SC_firstBucket 7 = .ok (.bipush 7, 2) := by decide +kernel
theorem xnd_SC_firstBucket_9 : decode xnc_SC_firstBucket 9 = .ok (.iand, 1) := by decide +kernel
theorem xnd_SC_firstBucket_10 : decode xnc_SC_firstBucket 10 = .ok (.ireturn, 1) := by decide +kernel
theorem xnd_SC_mix_0 : decode xnc_SC_mix 0 = .ok (.iload_n 0, 1) := by decide +kernel
theorem xnd_SC_mix_1 : decode xnc_SC_mix 1 = .ok (.iload_n 0, 1) := by decide +kernel
theorem xnd_SC_mix_2 : decode xnc_SC_mix 2 = .ok (.bipush 15, 2) := by decide +kernel
theorem xnd_SC_mix_4 : decode xnc_SC_mix 4 = .ok (.iushr, 1) := by decide +kernel
theorem xnd_SC_mix_5 : decode xnc_SC_mix 5 = .ok (.ixor, 1) := by decide +kernel
theorem xnd_SC_mix_6 : decode xnc_SC_mix 6 = .ok (.ldc 161, 2) := by decide +kernel
theorem xnd_SC_mix_8 : decode xnc_SC_mix 8 = .ok (.imul, 1) := by decide +kernel
theorem xnd_SC_mix_9 : decode xnc_SC_mix 9 = .ok (.ireturn, 1) := by decide +kernel
theorem xnd_ST_lookUpIn_0 : decode xnc_ST_lookUpIn 0 = .ok (.aload_n 0, 1) := by decide +kernel
theorem xnd_ST_lookUpIn_1 : decode xnc_ST_lookUpIn 1 = .ok (.iload_n 1, 1) := by decide +kernel
theorem xnd_ST_lookUpIn_2 : decode xnc_ST_lookUpIn 2 = .ok (.iload_n 2, 1) := by decide +kernel
theorem xnd_ST_lookUpIn_3 : decode xnc_ST_lookUpIn 3 = .ok (.invokevirtual 64, 3) := by decide +kernel
theorem xnd_ST_lookUpIn_6 : decode xnc_ST_lookUpIn 6 = .ok (.istore_n 3, 1) := by decide +kernel
theorem xnd_ST_lookUpIn_7 : decode xnc_ST_lookUpIn 7 = .ok (.iload_n 3, 1) := by decide +kernel
theorem xnd_ST_lookUpIn_8 : decode xnc_ST_lookUpIn 8 = .ok (.iconst (-1), 1) := by decide +kernel
theorem xnd_ST_lookUpIn_9 : decode xnc_ST_lookUpIn 9 = .ok (.if_icmp .eq 7, 3) := by decide +kernel
theorem xnd_ST_lookUpIn_12 : decode xnc_ST_lookUpIn 12 = .ok (.iload_n 3, 1) := by decide +kernel
theorem xnd_ST_lookUpIn_13 : decode xnc_ST_lookUpIn 13 = .ok (.goto 11, 3) := by decide +kernel
theorem xnd_ST_lookUpIn_16 : decode xnc_ST_lookUpIn 16 = .ok (.aload_n 0, 1) := by decide +kernel
theorem xnd_ST_lookUpIn_17 : decode xnc_ST_lookUpIn 17 = .ok (.getfield 19, 3) := by decide +kernel
theorem xnd_ST_lookUpIn_20 : decode xnc_ST_lookUpIn 20 = .ok (.iload_n 1, 1) := by decide +kernel
theorem xnd_ST_lookUpIn_21 : decode xnc_ST_lookUpIn 21 = .ok (.iconst 1, 1) := by decide +kernel
theorem xnd_ST_lookUpIn_22 : decode xnc_ST_lookUpIn 22 = .ok (.iadd, 1) := by decide +kernel
theorem xnd_ST_lookUpIn_23 : decode xnc_ST_lookUpIn 23 = .ok (.imul, 1) := by decide +kernel
theorem xnd_ST_lookUpIn_24 : decode xnc_ST_lookUpIn 24 = .ok (.istore 4, 2) := by decide +kernel
theorem xnd_ST_lookUpIn_26 : decode xnc_ST_lookUpIn 26 = .ok (.aload_n 0, 1) := by decide +kernel
theorem xnd_ST_lookUpIn_27 : decode xnc_ST_lookUpIn 27 = .ok (.getfield 19, 3) := by decide +kernel
theorem xnd_ST_lookUpIn_30 : decode xnc_ST_lookUpIn 30 = .ok (.iload_n 1, 1) := by decide +kernel
theorem xnd_ST_lookUpIn_31 : decode xnc_ST_lookUpIn 31 = .ok (.imul, 1) := by decide +kernel
theorem xnd_ST_lookUpIn_32 : decode xnc_ST_lookUpIn 32 = .ok (.istore 5, 2) := by decide +kernel
theorem xnd_ST_lookUpIn_34 : decode xnc_ST_lookUpIn 34 = .ok (.iload 5, 2) := by decide +kernel
theorem xnd_ST_lookUpIn_36 : decode xnc_ST_lookUpIn 36 = .ok (.iload 4, 2) := by decide +kernel
theorem xnd_ST_lookUpIn_38 : decode xnc_ST_lookUpIn 38 = .ok (.if_icmp .ge 55, 3) := by decide +kernel
theorem xnd_ST_lookUpIn_41 : decode xnc_ST_lookUpIn 41 = .ok (.aload_n 0, 1) := by decide +kernel
theorem xnd_ST_lookUpIn_42 : decode xnc_ST_lookUpIn 42 = .ok (.getfield 22, 3) := by decide +kernel
theorem xnd_ST_lookUpIn_45 : decode xnc_ST_lookUpIn 45 = .ok (.iload 5, 2) := by decide +kernel
theorem xnd_ST_lookUpIn_47 : decode xnc_ST_lookUpIn 47 = .ok (.iaload, 1) := by decide +kernel
theorem xnd_ST_lookUpIn_48 : decode xnc_ST_lookUpIn 48 = .ok (.iconst (-1), 1) := by decide +kernel
theorem xnd_ST_lookUpIn_49 : decode xnc_ST_lookUpIn 49 = .ok (.if_icmp .eq 38, 3) := by decide +kernel
theorem xnd_ST_lookUpIn_52 : decode xnc_ST_lookUpIn 52 = .ok (.aload_n 0, 1) := by decide +kernel
theorem xnd_ST_lookUpIn_53 : decode xnc_ST_lookUpIn 53 = .ok (.getfield 32, 3) := by decide +kernel
theorem xnd_ST_lookUpIn_56 : decode xnc_ST_lookUpIn 56 = .ok (.aload_n 0, 1) := by decide +kernel
theorem xnd_ST_lookUpIn_57 : decode xnc_ST_lookUpIn 57 = .ok (.getfield 22, 3) := by decide +kernel
theorem xnd_ST_lookUpIn_60 : decode xnc_ST_lookUpIn 60 = .ok (.iload 5, 2) := by decide +kernel
theorem xnd_ST_lookUpIn_62 : decode xnc_ST_lookUpIn 62 = .ok (.iaload, 1) := by decide +kernel
theorem xnd_ST_lookUpIn_63 : decode xnc_ST_lookUpIn 63 = .ok (.iaload, 1) := by decide +kernel
theorem xnd_ST_lookUpIn_64 : decode xnc_ST_lookUpIn 64 = .ok (.invokestatic 74, 3) := by decide +kernel
theorem xnd_ST_lookUpIn_67 : decode xnc_ST_lookUpIn 67 = .ok (.iload_n 2, 1) := by decide +kernel
theorem xnd_ST_lookUpIn_68 : decode xnc_ST_lookUpIn 68 = .ok (.invokestatic 74, 3) := by decide +kernel
theorem xnd_ST_lookUpIn_71 : decode xnc_ST_lookUpIn 71 = .ok (.if_icmp .ne 16, 3) := by decide +kernel
theorem xnd_ST_lookUpIn_74 : decode xnc_ST_lookUpIn 74 = .ok (.aload_n 0, 1) := by decide +kernel
theorem xnd_ST_lookUpIn_75 : decode xnc_ST_lookUpIn 75 = .ok (.getfield 9, 3) := by decide +kernel
theorem xnd_ST_lookUpIn_78 : decode xnc_ST_lookUpIn 78 = .ok (.dup, 1) := by decide +kernel
theorem xnd_ST_lookUpIn_79 : decode xnc_ST_lookUpIn 79 = .ok (.getfield 77, 3) := by decide +kernel
theorem xnd_ST_lookUpIn_82 : decode xnc_ST_lookUpIn 82 = .ok (.iconst 1, 1) := by decide +kernel
theorem xnd_ST_lookUpIn_83 : decode xnc_ST_lookUpIn 83 = .ok (.iadd, 1) := by decide +kernel
theorem xnd_ST_lookUpIn_84 : decode xnc_ST_lookUpIn 84 = .ok (.putfield 77, 3) := by decide +kernel
theorem xnd_ST_lookUpIn_87 : decode xnc_ST_lookUpIn 87 = .ok (.iinc 5 1, 3) := by decide +kernel
theorem xnd_ST_lookUpIn_90 : decode xnc_ST_lookUpIn 90 = .ok (.goto (-56), 3) := by decide +kernel
theorem xnd_ST_lookUpIn_93 : decode xnc_ST_lookUpIn 93 = .ok (.iload_n 3, 1) := by decide +kernel
theorem xnd_ST_lookUpIn_94 : decode xnc_ST_lookUpIn 94 = .ok (.ireturn, 1) := by decide +kernel
theorem xnd_ST_findIn_0 : decode xnc_ST_findIn 0 = .ok (.aload_n 0, 1) := by decide +kernel
theorem xnd_ST_findIn_1 : decode xnc_ST_findIn 1 = .ok (.getfield 19, 3) := by decide +kernel
theorem xnd_ST_findIn_4 : decode xnc_ST_findIn 4 = .ok (.iload_n 1, 1) := by decide +kernel
theorem xnd_ST_findIn_5 : decode xnc_ST_findIn 5 = .ok (.iconst 1, 1) := by decide +kernel
theorem xnd_ST_findIn_6 : decode xnc_ST_findIn 6 = .ok (.iadd, 1) := by decide +kernel
theorem xnd_ST_findIn_7 : decode xnc_ST_findIn 7 = .ok (.imul, 1) := by decide +kernel
theorem xnd_ST_findIn_8 : decode xnc_ST_findIn 8 = .ok (.istore_n 3, 1) := by decide +kernel
theorem xnd_ST_findIn_9 : decode xnc_ST_findIn 9 = .ok (.aload_n 0, 1) := by decide +kernel
theorem xnd_ST_findIn_10 : decode xnc_ST_findIn 10 = .ok (.getfield 19, 3) := by decide +kernel
theorem xnd_ST_findIn_13 : decode xnc_ST_findIn 13 = .ok (.iload_n 1, 1) := by decide +kernel
theorem xnd_ST_findIn_14 : decode xnc_ST_findIn 14 = .ok (.imul, 1) := by decide +kernel
theorem xnd_ST_findIn_15 : decode xnc_ST_findIn 15 = .ok (.istore 4, 2) := by decide +kernel
theorem xnd_ST_findIn_17 : decode xnc_ST_findIn 17 = .ok (.iload 4, 2) := by decide +kernel
theorem xnd_ST_findIn_19 : decode xnc_ST_findIn 19 = .ok (.iload_n 3, 1) := by decide +kernel
theorem xnd_ST_findIn_20 : decode xnc_ST_findIn 20 = .ok (.if_icmp .ge 39, 3) := by decide +kernel
theorem xnd_ST_findIn_23 : decode xnc_ST_findIn 23 = .ok (.aload_n 0, 1) := by decide +kernel
theorem xnd_ST_findIn_24 : decode xnc_ST_findIn 24 = .ok (.getfield 22, 3) := by decide +kernel
theorem xnd_ST_findIn_27 : decode xnc_ST_findIn 27 = .ok (.iload 4, 2) := by decide +kernel
theorem xnd_ST_findIn_29 : decode xnc_ST_findIn 29 = .ok (.iaload, 1) := by decide +kernel
theorem xnd_ST_findIn_30 : decode xnc_ST_findIn 30 = .ok (.iconst (-1), 1) := by decide +kernel
theorem xnd_ST_findIn_31 : decode xnc_ST_findIn 31 = .ok (.if_icmp .eq 22, 3) := by decide +kernel
theorem xnd_ST_findIn_34 : decode xnc_ST_findIn 34 = .ok (.aload_n 0, 1) := by decide +kernel
theorem xnd_ST_findIn_35 : decode xnc_ST_findIn 35 = .ok (.getfield 32, 3) := by decide +kernel
theorem xnd_ST_findIn_38 : decode xnc_ST_findIn 38 = .ok (.aload_n 0, 1) := by decide +kernel
theorem xnd_ST_findIn_39 : decode xnc_ST_findIn 39 = .ok (.getfield 22, 3) := by decide +kernel
theorem xnd_ST_findIn_42 : decode xnc_ST_findIn 42 = .ok (.iload 4, 2) := by decide +kernel
theorem xnd_ST_findIn_44 : decode xnc_ST_findIn 44 = .ok (.iaload, 1) := by decide +kernel
theorem xnd_ST_findIn_45 : decode xnc_ST_findIn 45 = .ok (.iaload, 1) := by decide +kernel
theorem xnd_ST_findIn_46 : decode xnc_ST_findIn 46 = .ok (.iload_n 2, 1) := by decide +kernel
theorem xnd_ST_findIn_47 : decode xnc_ST_findIn 47 = .ok (.if_icmp .ne 6, 3) := by decide +kernel
theorem xnd_ST_findIn_50 : decode xnc_ST_findIn 50 = .ok (.iload 4, 2) := by decide +kernel
theorem xnd_ST_findIn_52 : decode xnc_ST_findIn 52 = .ok (.ireturn, 1) := by decide +kernel
theorem xnd_ST_findIn_53 : decode xnc_ST_findIn 53 = .ok (.iinc 4 1, 3) := by decide +kernel
theorem xnd_ST_findIn_56 : decode xnc_ST_findIn 56 = .ok (.goto (-39), 3) := by decide +kernel
theorem xnd_ST_findIn_59 : decode xnc_ST_findIn 59 = .ok (.iconst (-1), 1) := by decide +kernel
theorem xnd_ST_findIn_60 : decode xnc_ST_findIn 60 = .ok (.ireturn, 1) := by decide +kernel
theorem xnd_SC_tagOf_0 : decode xnc_SC_tagOf 0 = .ok (.iload_n 0, 1) := by decide +kernel
theorem xnd_SC_tagOf_1 : decode xnc_SC_tagOf 1 = .ok (.invokestatic 162, 3) := by decide +kernel
theorem xnd_SC_tagOf_4 : decode xnc_SC_tagOf 4 = .ok (.bipush 28, 2) := by decide +kernel
theorem xnd_SC_tagOf_6 : decode xnc_SC_tagOf 6 = .ok (.iushr, 1) := by decide +kernel
theorem xnd_SC_tagOf_7 : decode xnc_SC_tagOf 7 = .ok (.ireturn, 1) := by decide +kernel
theorem xnd_SC_secondBucket_0 : decode xnc_SC_secondBucket 0 = .ok (.iload_n 0, 1) := by decide +kernel
theorem xnd_SC_secondBucket_1 : decode xnc_SC_secondBucket 1 = .ok (.invokestatic 116, 3) := by decide +kernel
theorem xnd_SC_secondBucket_4 : decode xnc_SC_secondBucket 4 = .ok (.iload_n 0, 1) := by decide +kernel
theorem xnd_SC_secondBucket_5 : decode xnc_SC_secondBucket 5 = .ok (.invokestatic 165, 3) := by decide +kernel
theorem xnd_SC_secondBucket_8 : decode xnc_SC_secondBucket 8 = .ok (.ireturn, 1) := by decide +kernel
theorem xnd_SC_otherBucket_0 : decode xnc_SC_otherBucket 0 = .ok (.iload_n 0, 1) := by decide +kernel
theorem xnd_SC_otherBucket_1 : decode xnc_SC_otherBucket 1 = .ok (.iconst 1, 1) := by decide +kernel
theorem xnd_SC_otherBucket_2 : decode xnc_SC_otherBucket 2 = .ok (.iload_n 1, 1) := by decide +kernel
theorem xnd_SC_otherBucket_3 : decode xnc_SC_otherBucket 3 = .ok (.invokestatic 122, 3) := by decide +kernel
theorem xnd_SC_otherBucket_6 : decode xnc_SC_otherBucket 6 = .ok (.bipush 7, 2) := by decide +kernel
theorem xnd_SC_otherBucket_8 : decode xnc_SC_otherBucket 8 = .ok (.irem, 1) := by decide +kernel
theorem xnd_SC_otherBucket_9 : decode xnc_SC_otherBucket 9 = .ok (.iadd, 1) := by decide +kernel
theorem xnd_SC_otherBucket_10 : decode xnc_SC_otherBucket 10 = .ok (.ixor, 1) := by decide +kernel
theorem xnd_SC_otherBucket_11 : decode xnc_SC_otherBucket 11 = .ok (.ireturn, 1) := by decide +kernel
theorem xnd_ST_isOver_0 : decode xnc_ST_isOver 0 = .ok (.iload_n 1, 1) := by decide +kernel
theorem xnd_ST_isOver_1 : decode xnc_ST_isOver 1 = .ok (.ifCond .eq 15, 3) := by decide +kernel
theorem xnd_ST_isOver_4 : decode xnc_ST_isOver 4 = .ok (.iload_n 1, 1) := by decide +kernel
theorem xnd_ST_isOver_5 : decode xnc_ST_isOver 5 = .ok (.aload_n 0, 1) := by decide +kernel
theorem xnd_ST_isOver_6 : decode xnc_ST_isOver 6 = .ok (.getfield 57, 3) := by decide +kernel
theorem xnd_ST_isOver_9 : decode xnc_ST_isOver 9 = .ok (.if_icmp .gt 7, 3) := by decide +kernel
theorem xnd_ST_isOver_12 : decode xnc_ST_isOver 12 = .ok (.iconst 1, 1) := by decide +kernel
theorem xnd_ST_isOver_13 : decode xnc_ST_isOver 13 = .ok (.goto 4, 3) := by decide +kernel
theorem xnd_ST_isOver_16 : decode xnc_ST_isOver 16 = .ok (.iconst 0, 1) := by decide +kernel
theorem xnd_ST_isOver_17 : decode xnc_ST_isOver 17 = .ok (.ireturn, 1) := by decide +kernel
theorem xnd_ST_remove_0 : decode xnc_ST_remove 0 = .ok (.iconst 0, 1) := by decide +kernel
theorem xnd_ST_remove_1 : decode xnc_ST_remove 1 = .ok (.istore_n 2, 1) := by decide +kernel
theorem xnd_ST_remove_2 : decode xnc_ST_remove 2 = .ok (.iload_n 2, 1) := by decide +kernel
theorem xnd_ST_remove_3 : decode xnc_ST_remove 3 = .ok (.aload_n 0, 1) := by decide +kernel
theorem xnd_ST_remove_4 : decode xnc_ST_remove 4 = .ok (.getfield 22, 3) := by decide +kernel
theorem xnd_ST_remove_7 : decode xnc_ST_remove 7 = .ok (.arraylength, 1) := by decide +kernel
theorem xnd_ST_remove_8 : decode xnc_ST_remove 8 = .ok (.if_icmp .ge 26, 3) := by decide +kernel
theorem xnd_ST_remove_11 : decode xnc_ST_remove 11 = .ok (.aload_n 0, 1) := by decide +kernel
theorem xnd_ST_remove_12 : decode xnc_ST_remove 12 = .ok (.getfield 22, 3) := by decide +kernel
theorem xnd_ST_remove_15 : decode xnc_ST_remove 15 = .ok (.iload_n 2, 1) := by decide +kernel
theorem xnd_ST_remove_16 : decode xnc_ST_remove 16 = .ok (.iaload, 1) := by decide +kernel
theorem xnd_ST_remove_17 : decode xnc_ST_remove 17 = .ok (.iload_n 1, 1) := by decide +kernel
theorem xnd_ST_remove_18 : decode xnc_ST_remove 18 = .ok (.if_icmp .ne 10, 3) := by decide +kernel
theorem xnd_ST_remove_21 : decode xnc_ST_remove 21 = .ok (.aload_n 0, 1) := by decide +kernel
theorem xnd_ST_remove_22 : decode xnc_ST_remove 22 = .ok (.getfield 22, 3) := by decide +kernel
theorem xnd_ST_remove_25 : decode xnc_ST_remove 25 = .ok (.iload_n 2, 1) := by decide +kernel
theorem xnd_ST_remove_26 : decode xnc_ST_remove 26 = .ok (.iconst (-1), 1) := by decide +kernel
theorem xnd_ST_remove_27 : decode xnc_ST_remove 27 = .ok (.iastore, 1) := by decide +kernel
theorem xnd_ST_remove_28 : decode xnc_ST_remove 28 = .ok (.iinc 2 1, 3) := by decide +kernel
theorem xnd_ST_remove_31 : decode xnc_ST_remove 31 = .ok (.goto (-29), 3) := by decide +kernel
theorem xnd_ST_remove_34 : decode xnc_ST_remove 34 = .ok (.aload_n 0, 1) := by decide +kernel
theorem xnd_ST_remove_35 : decode xnc_ST_remove 35 = .ok (.getfield 48, 3) := by decide +kernel
theorem xnd_ST_remove_38 : decode xnc_ST_remove 38 = .ok (.iload_n 1, 1) := by decide +kernel
theorem xnd_ST_remove_39 : decode xnc_ST_remove 39 = .ok (.iconst 0, 1) := by decide +kernel
theorem xnd_ST_remove_40 : decode xnc_ST_remove 40 = .ok (.bastore, 1) := by decide +kernel
theorem xnd_ST_remove_41 : decode xnc_ST_remove 41 = .ok (.aload_n 0, 1) := by decide +kernel
theorem xnd_ST_remove_42 : decode xnc_ST_remove 42 = .ok (.dup, 1) := by decide +kernel
theorem xnd_ST_remove_43 : decode xnc_ST_remove 43 = .ok (.getfield 54, 3) := by decide +kernel
theorem xnd_ST_remove_46 : decode xnc_ST_remove 46 = .ok (.iconst 1, 1) := by decide +kernel
theorem xnd_ST_remove_47 : decode xnc_ST_remove 47 = .ok (.isub, 1) := by decide +kernel
theorem xnd_ST_remove_48 : decode xnc_ST_remove 48 = .ok (.putfield 54, 3) := by decide +kernel
theorem xnd_ST_remove_51 : decode xnc_ST_remove 51 = .ok (.aload_n 0, 1) := by decide +kernel
theorem xnd_ST_remove_52 : decode xnc_ST_remove 52 = .ok (.aload_n 0, 1) := by decide +kernel
theorem xnd_ST_remove_53 : decode xnc_ST_remove 53 = .ok (.getfield 32, 3) := by decide +kernel
theorem xnd_ST_remove_56 : decode xnc_ST_remove 56 = .ok (.iload_n 1, 1) := by decide +kernel
theorem xnd_ST_remove_57 : decode xnc_ST_remove 57 = .ok (.iaload, 1) := by decide +kernel
theorem xnd_ST_remove_58 : decode xnc_ST_remove 58 = .ok (.iconst 2, 1) := by decide +kernel
theorem xnd_ST_remove_59 : decode xnc_ST_remove 59 = .ok (.invokevirtual 85, 3) := by decide +kernel
theorem xnd_ST_remove_62 : decode xnc_ST_remove 62 = .ok (.return_, 1) := by decide +kernel
theorem xnd_ST_growVersion_0 : decode xnc_ST_growVersion 0 = .ok (.aload_n 0, 1) := by decide +kernel
theorem xnd_ST_growVersion_1 : decode xnc_ST_growVersion 1 = .ok (.getfield 51, 3) := by decide +kernel
theorem xnd_ST_growVersion_4 : decode xnc_ST_growVersion 4 = .ok (.iload_n 1, 1) := by decide +kernel
theorem xnd_ST_growVersion_5 : decode xnc_ST_growVersion 5 = .ok (.invokestatic 82, 3) := by decide +kernel
theorem xnd_ST_growVersion_8 : decode xnc_ST_growVersion 8 = .ok (.dup2, 1) := by decide +kernel
theorem xnd_ST_growVersion_9 : decode xnc_ST_growVersion 9 = .ok (.iaload, 1) := by decide +kernel
theorem xnd_ST_growVersion_10 : decode xnc_ST_growVersion 10 = .ok (.iload_n 2, 1) := by decide +kernel
theorem xnd_ST_growVersion_11 : decode xnc_ST_growVersion 11 = .ok (.iadd, 1) := by decide +kernel
theorem xnd_ST_growVersion_12 : decode xnc_ST_growVersion 12 = .ok (.iastore, 1) := by decide +kernel
theorem xnd_ST_growVersion_13 : decode xnc_ST_growVersion 13 = .ok (.return_, 1) := by decide +kernel
theorem xnd_SC_stripeOf_0 : decode xnc_SC_stripeOf 0 = .ok (.iload_n 0, 1) := by decide +kernel
theorem xnd_SC_stripeOf_1 : decode xnc_SC_stripeOf 1 = .ok (.invokestatic 162, 3) := by decide +kernel
theorem xnd_SC_stripeOf_4 : decode xnc_SC_stripeOf 4 = .ok (.bipush 23, 2) := by decide +kernel
theorem xnd_SC_stripeOf_6 : decode xnc_SC_stripeOf 6 = .ok (.iushr, 1) := by decide +kernel
theorem xnd_SC_stripeOf_7 : decode xnc_SC_stripeOf 7 = .ok (.iconst 3, 1) := by decide +kernel
theorem xnd_SC_stripeOf_8 : decode xnc_SC_stripeOf 8 = .ok (.iand, 1) := by decide +kernel
theorem xnd_SC_stripeOf_9 : decode xnc_SC_stripeOf 9 = .ok (.ireturn, 1) := by decide +kernel
theorem xnd_WR_chooseWhenFound_0 : decode xnc_WR_chooseWhenFound 0 = .ok (.aload_n 0, 1) := by decide +kernel
theorem xnd_WR_chooseWhenFound_1 : decode xnc_WR_chooseWhenFound 1 = .ok (.getfield 32, 3) := by decide +kernel
theorem xnd_WR_chooseWhenFound_4 : decode xnc_WR_chooseWhenFound 4 = .ok (.iconst 1, 1) := by decide +kernel
theorem xnd_WR_chooseWhenFound_5 : decode xnc_WR_chooseWhenFound 5 = .ok (.if_icmp .ne 11, 3) := by decide +kernel
theorem xnd_WR_chooseWhenFound_8 : decode xnc_WR_chooseWhenFound 8 = .ok (.aload_n 0, 1) := by decide +kernel
theorem xnd_WR_chooseWhenFound_9 : decode xnc_WR_chooseWhenFound 9 = .ok (.iconst 2, 1) := by decide +kernel
theorem xnd_WR_chooseWhenFound_10 : decode xnc_WR_chooseWhenFound 10 = .ok (.putfield 28, 3) := by decide +kernel
theorem xnd_WR_chooseWhenFound_13 : decode xnc_WR_chooseWhenFound 13 = .ok (.goto 69, 3) := by decide +kernel
theorem xnd_WR_chooseWhenFound_16 : decode xnc_WR_chooseWhenFound 16 = .ok (.aload_n 0, 1) := by decide +kernel
theorem xnd_WR_chooseWhenFound_17 : decode xnc_WR_chooseWhenFound 17 = .ok (.getfield 32, 3) := by decide +kernel
theorem xnd_WR_chooseWhenFound_20 : decode xnc_WR_chooseWhenFound 20 = .ok (.iconst 4, 1) := by decide +kernel
theorem xnd_WR_chooseWhenFound_21 : decode xnc_WR_chooseWhenFound 21 = .ok (.if_icmp .ne 19, 3) := by decide +kernel
theorem xnd_WR_chooseWhenFound_24 : decode xnc_WR_chooseWhenFound 24 = .ok (.aload_n 0, 1) := by decide +kernel
theorem xnd_WR_chooseWhenFound_25 : decode xnc_WR_chooseWhenFound 25 = .ok (.getfield 9, 3) := by decide +kernel
theorem xnd_WR_chooseWhenFound_28 : decode xnc_WR_chooseWhenFound 28 = .ok (.iload_n 1, 1) := by decide +kernel
theorem xnd_WR_chooseWhenFound_29 : decode xnc_WR_chooseWhenFound 29 = .ok (.invokevirtual 91, 3) := by decide +kernel
theorem xnd_WR_chooseWhenFound_32 : decode xnc_WR_chooseWhenFound 32 = .ok (.aload_n 0, 1) := by decide +kernel
theorem xnd_WR_chooseWhenFound_33 : decode xnc_WR_chooseWhenFound 33 = .ok (.iconst 5, 1) := by decide +kernel
theorem xnd_WR_chooseWhenFound_34 : decode xnc_WR_chooseWhenFound 34 = .ok (.putfield 28, 3) := by decide +kernel
theorem xnd_WR_chooseWhenFound_37 : decode xnc_WR_chooseWhenFound 37 = .ok (.goto 45, 3) := by decide +kernel
theorem xnd_WR_chooseWhenFound_40 : decode xnc_WR_chooseWhenFound 40 = .ok (.aload_n 0, 1) := by decide +kernel
theorem xnd_WR_chooseWhenFound_41 : decode xnc_WR_chooseWhenFound 41 = .ok (.getfield 32, 3) := by decide +kernel
theorem xnd_WR_chooseWhenFound_44 : decode xnc_WR_chooseWhenFound 44 = .ok (.iconst 3, 1) := by decide +kernel
theorem xnd_WR_chooseWhenFound_45 : decode xnc_WR_chooseWhenFound 45 = .ok (.if_icmp .ne 27, 3) := by decide +kernel
theorem xnd_WR_chooseWhenFound_48 : decode xnc_WR_chooseWhenFound 48 = .ok (.aload_n 0, 1) := by decide +kernel
theorem xnd_WR_chooseWhenFound_49 : decode xnc_WR_chooseWhenFound 49 = .ok (.getfield 9, 3) := by decide +kernel
theorem xnd_WR_chooseWhenFound_52 : decode xnc_WR_chooseWhenFound 52 = .ok (.getfield 106, 3) := by decide +kernel
theorem xnd_WR_chooseWhenFound_55 : decode xnc_WR_chooseWhenFound 55 = .ok (.iload_n 1, 1) := by decide +kernel
theorem xnd_WR_chooseWhenFound_56 : decode xnc_WR_chooseWhenFound 56 = .ok (.iaload, 1) := by decide +kernel
theorem xnd_WR_chooseWhenFound_57 : decode xnc_WR_chooseWhenFound 57 = .ok (.aload_n 0, 1) := by decide +kernel
theorem xnd_WR_chooseWhenFound_58 : decode xnc_WR_chooseWhenFound 58 = .ok (.getfield 44, 3) := by decide +kernel
theorem xnd_WR_chooseWhenFound_61 : decode xnc_WR_chooseWhenFound 61 = .ok (.if_icmp .eq 11, 3) := by decide +kernel
theorem xnd_WR_chooseWhenFound_64 : decode xnc_WR_chooseWhenFound 64 = .ok (.aload_n 0, 1) := by decide +kernel
theorem xnd_WR_chooseWhenFound_65 : decode xnc_WR_chooseWhenFound 65 = .ok (.iconst 3, 1) := by decide +kernel
theorem xnd_WR_chooseWhenFound_66 : decode xnc_WR_chooseWhenFound 66 = .ok (.putfield 28, 3) := by decide +kernel
theorem xnd_WR_chooseWhenFound_69 : decode xnc_WR_chooseWhenFound 69 = .ok (.goto 13, 3) := by decide +kernel
theorem xnd_WR_chooseWhenFound_72 : decode xnc_WR_chooseWhenFound 72 = .ok (.aload_n 0, 1) := by decide +kernel
theorem xnd_WR_chooseWhenFound_73 : decode xnc_WR_chooseWhenFound 73 = .ok (.iload_n 1, 1) := by decide +kernel
theorem xnd_WR_chooseWhenFound_74 : decode xnc_WR_chooseWhenFound 74 = .ok (.putfield 109, 3) := by decide +kernel
theorem xnd_WR_chooseWhenFound_77 : decode xnc_WR_chooseWhenFound 77 = .ok (.aload_n 0, 1) := by decide +kernel
theorem xnd_WR_chooseWhenFound_78 : decode xnc_WR_chooseWhenFound 78 = .ok (.iconst 1, 1) := by decide +kernel
theorem xnd_WR_chooseWhenFound_79 : decode xnc_WR_chooseWhenFound 79 = .ok (.putfield 47, 3) := by decide +kernel
theorem xnd_WR_chooseWhenFound_82 : decode xnc_WR_chooseWhenFound 82 = .ok (.return_, 1) := by decide +kernel
theorem xnd_WR_chooseWhenNotFound_0 : decode xnc_WR_chooseWhenNotFound 0 = .ok (.aload_n 0, 1) := by decide +kernel
theorem xnd_WR_chooseWhenNotFound_1 : decode xnc_WR_chooseWhenNotFound 1 = .ok (.getfield 32, 3) := by decide +kernel
theorem xnd_WR_chooseWhenNotFound_4 : decode xnc_WR_chooseWhenNotFound 4 = .ok (.iconst 2, 1) := by decide +kernel
theorem xnd_WR_chooseWhenNotFound_5 : decode xnc_WR_chooseWhenNotFound 5 = .ok (.if_icmp .ne 11, 3) := by decide +kernel
theorem xnd_WR_chooseWhenNotFound_8 : decode xnc_WR_chooseWhenNotFound 8 = .ok (.aload_n 0, 1) := by decide +kernel
theorem xnd_WR_chooseWhenNotFound_9 : decode xnc_WR_chooseWhenNotFound 9 = .ok (.iconst 2, 1) := by decide +kernel
theorem xnd_WR_chooseWhenNotFound_10 : decode xnc_WR_chooseWhenNotFound 10 = .ok (.putfield 28, 3) := by decide +kernel
theorem xnd_WR_chooseWhenNotFound_13 : decode xnc_WR_chooseWhenNotFound 13 = .ok (.goto 46, 3) := by decide +kernel
theorem xnd_WR_chooseWhenNotFound_16 : decode xnc_WR_chooseWhenNotFound 16 = .ok (.aload_n 0, 1) := by decide +kernel
theorem xnd_WR_chooseWhenNotFound_17 : decode xnc_WR_chooseWhenNotFound 17 = .ok (.getfield 32, 3) := by decide +kernel
theorem xnd_WR_chooseWhenNotFound_20 : decode xnc_WR_chooseWhenNotFound 20 = .ok (.iconst 3, 1) := by decide +kernel
theorem xnd_WR_chooseWhenNotFound_21 : decode xnc_WR_chooseWhenNotFound 21 = .ok (.if_icmp .eq 11, 3) := by decide +kernel
theorem xnd_WR_chooseWhenNotFound_24 : decode xnc_WR_chooseWhenNotFound 24 = .ok (.aload_n 0, 1) := by decide +kernel
theorem xnd_WR_chooseWhenNotFound_25 : decode xnc_WR_chooseWhenNotFound 25 = .ok (.getfield 32, 3) := by decide +kernel
theorem xnd_WR_chooseWhenNotFound_28 : decode xnc_WR_chooseWhenNotFound 28 = .ok (.iconst 4, 1) := by decide +kernel
theorem xnd_WR_chooseWhenNotFound_29 : decode xnc_WR_chooseWhenNotFound 29 = .ok (.if_icmp .ne 11, 3) := by decide +kernel
theorem xnd_WR_chooseWhenNotFound_32 : decode xnc_WR_chooseWhenNotFound 32 = .ok (.aload_n 0, 1) := by decide +kernel
theorem xnd_WR_chooseWhenNotFound_33 : decode xnc_WR_chooseWhenNotFound 33 = .ok (.iconst 4, 1) := by decide +kernel
theorem xnd_WR_chooseWhenNotFound_34 : decode xnc_WR_chooseWhenNotFound 34 = .ok (.putfield 28, 3) := by decide +kernel
theorem xnd_WR_chooseWhenNotFound_37 : decode xnc_WR_chooseWhenNotFound 37 = .ok (.goto 22, 3) := by decide +kernel
theorem xnd_WR_chooseWhenNotFound_40 : decode xnc_WR_chooseWhenNotFound 40 = .ok (.aload_n 0, 1) := by decide +kernel
theorem xnd_WR_chooseWhenNotFound_41 : decode xnc_WR_chooseWhenNotFound 41 = .ok (.aload_n 0, 1) := by decide +kernel
theorem xnd_WR_chooseWhenNotFound_42 : decode xnc_WR_chooseWhenNotFound 42 = .ok (.getfield 9, 3) := by decide +kernel
theorem xnd_WR_chooseWhenNotFound_45 : decode xnc_WR_chooseWhenNotFound 45 = .ok (.invokevirtual 112, 3) := by decide +kernel
theorem xnd_WR_chooseWhenNotFound_48 : decode xnc_WR_chooseWhenNotFound 48 = .ok (.ifCond .eq 7, 3) := by decide +kernel
theorem xnd_WR_chooseWhenNotFound_51 : decode xnc_WR_chooseWhenNotFound 51 = .ok (.iconst 3, 1) := by decide +kernel
theorem xnd_WR_chooseWhenNotFound_52 : decode xnc_WR_chooseWhenNotFound 52 = .ok (.goto 4, 3) := by decide +kernel
theorem xnd_WR_chooseWhenNotFound_55 : decode xnc_WR_chooseWhenNotFound 55 = .ok (.iconst 4, 1) := by decide +kernel
theorem xnd_WR_chooseWhenNotFound_56 : decode xnc_WR_chooseWhenNotFound 56 = .ok (.putfield 47, 3) := by decide +kernel
theorem xnd_WR_chooseWhenNotFound_59 : decode xnc_WR_chooseWhenNotFound 59 = .ok (.return_, 1) := by decide +kernel
theorem xnd_ST_isFull_0 : decode xnc_ST_isFull 0 = .ok (.aload_n 0, 1) := by decide +kernel
theorem xnd_ST_isFull_1 : decode xnc_ST_isFull 1 = .ok (.getfield 54, 3) := by decide +kernel
theorem xnd_ST_isFull_4 : decode xnc_ST_isFull 4 = .ok (.aload_n 0, 1) := by decide +kernel
theorem xnd_ST_isFull_5 : decode xnc_ST_isFull 5 = .ok (.getfield 15, 3) := by decide +kernel
theorem xnd_ST_isFull_8 : decode xnc_ST_isFull 8 = .ok (.if_icmp .ne 7, 3) := by decide +kernel
theorem xnd_ST_isFull_11 : decode xnc_ST_isFull 11 = .ok (.iconst 1, 1) := by decide +kernel
theorem xnd_ST_isFull_12 : decode xnc_ST_isFull 12 = .ok (.goto 4, 3) := by decide +kernel
theorem xnd_ST_isFull_15 : decode xnc_ST_isFull 15 = .ok (.iconst 0, 1) := by decide +kernel
theorem xnd_ST_isFull_16 : decode xnc_ST_isFull 16 = .ok (.ireturn, 1) := by decide +kernel
theorem xnd_WR_changeValue_0 : decode xnc_WR_changeValue 0 = .ok (.aload_n 0, 1) := by decide +kernel
theorem xnd_WR_changeValue_1 : decode xnc_WR_changeValue 1 = .ok (.getfield 9, 3) := by decide +kernel
theorem xnd_WR_changeValue_4 : decode xnc_WR_changeValue 4 = .ok (.aload_n 0, 1) := by decide +kernel
theorem xnd_WR_changeValue_5 : decode xnc_WR_changeValue 5 = .ok (.getfield 35, 3) := by decide +kernel
theorem xnd_WR_changeValue_8 : decode xnc_WR_changeValue 8 = .ok (.iconst 1, 1) := by decide +kernel
theorem xnd_WR_changeValue_9 : decode xnc_WR_changeValue 9 = .ok (.invokevirtual 116, 3) := by decide +kernel
theorem xnd_WR_changeValue_12 : decode xnc_WR_changeValue 12 = .ok (.aload_n 0, 1) := by decide +kernel
theorem xnd_WR_changeValue_13 : decode xnc_WR_changeValue 13 = .ok (.getfield 9, 3) := by decide +kernel
theorem xnd_WR_changeValue_16 : decode xnc_WR_changeValue 16 = .ok (.getfield 120, 3) := by decide +kernel
theorem xnd_WR_changeValue_19 : decode xnc_WR_changeValue 19 = .ok (.aload_n 0, 1) := by decide +kernel
theorem xnd_WR_changeValue_20 : decode xnc_WR_changeValue 20 = .ok (.getfield 109, 3) := by decide +kernel
theorem xnd_WR_changeValue_23 : decode xnc_WR_changeValue 23 = .ok (.aload_n 0, 1) := by decide +kernel
theorem xnd_WR_changeValue_24 : decode xnc_WR_changeValue 24 = .ok (.getfield 38, 3) := by decide +kernel
theorem xnd_WR_changeValue_27 : decode xnc_WR_changeValue 27 = .ok (.iastore, 1) := by decide +kernel
theorem xnd_WR_changeValue_28 : decode xnc_WR_changeValue 28 = .ok (.aload_n 0, 1) := by decide +kernel
theorem xnd_WR_changeValue_29 : decode xnc_WR_changeValue 29 = .ok (.iconst 2, 1) := by decide +kernel
theorem xnd_WR_changeValue_30 : decode xnc_WR_changeValue 30 = .ok (.putfield 47, 3) := by decide +kernel
theorem xnd_WR_changeValue_33 : decode xnc_WR_changeValue 33 = .ok (.return_, 1) := by decide +kernel
theorem xnd_WR_changeToken_0 : decode xnc_WR_changeToken 0 = .ok (.aload_n 0, 1) := by decide +kernel
theorem xnd_WR_changeToken_1 : decode xnc_WR_changeToken 1 = .ok (.getfield 9, 3) := by decide +kernel
theorem xnd_WR_changeToken_4 : decode xnc_WR_changeToken 4 = .ok (.aload_n 0, 1) := by decide +kernel
theorem xnd_WR_changeToken_5 : decode xnc_WR_changeToken 5 = .ok (.getfield 109, 3) := by decide +kernel
theorem xnd_WR_changeToken_8 : decode xnc_WR_changeToken 8 = .ok (.aload_n 0, 1) := by decide +kernel
theorem xnd_WR_changeToken_9 : decode xnc_WR_changeToken 9 = .ok (.getfield 41, 3) := by decide +kernel
theorem xnd_WR_changeToken_12 : decode xnc_WR_changeToken 12 = .ok (.invokevirtual 123, 3) := by decide +kernel
theorem xnd_WR_changeToken_15 : decode xnc_WR_changeToken 15 = .ok (.aload_n 0, 1) := by decide +kernel
theorem xnd_WR_changeToken_16 : decode xnc_WR_changeToken 16 = .ok (.getfield 9, 3) := by decide +kernel
theorem xnd_WR_changeToken_19 : decode xnc_WR_changeToken 19 = .ok (.aload_n 0, 1) := by decide +kernel
theorem xnd_WR_changeToken_20 : decode xnc_WR_changeToken 20 = .ok (.getfield 35, 3) := by decide +kernel
theorem xnd_WR_changeToken_23 : decode xnc_WR_changeToken 23 = .ok (.iconst 1, 1) := by decide +kernel
theorem xnd_WR_changeToken_24 : decode xnc_WR_changeToken 24 = .ok (.invokevirtual 116, 3) := by decide +kernel
theorem xnd_WR_changeToken_27 : decode xnc_WR_changeToken 27 = .ok (.aload_n 0, 1) := by decide +kernel
theorem xnd_WR_changeToken_28 : decode xnc_WR_changeToken 28 = .ok (.iconst 1, 1) := by decide +kernel
theorem xnd_WR_changeToken_29 : decode xnc_WR_changeToken 29 = .ok (.putfield 28, 3) := by decide +kernel
theorem xnd_WR_changeToken_32 : decode xnc_WR_changeToken 32 = .ok (.return_, 1) := by decide +kernel
theorem xnd_ST_renew_0 : decode xnc_ST_renew 0 = .ok (.aload_n 0, 1) := by decide +kernel
theorem xnd_ST_renew_1 : decode xnc_ST_renew 1 = .ok (.dup, 1) := by decide +kernel
theorem xnd_ST_renew_2 : decode xnc_ST_renew 2 = .ok (.getfield 89, 3) := by decide +kernel
theorem xnd_ST_renew_5 : decode xnc_ST_renew 5 = .ok (.iconst 1, 1) := by decide +kernel
theorem xnd_ST_renew_6 : decode xnc_ST_renew 6 = .ok (.iadd, 1) := by decide +kernel
theorem xnd_ST_renew_7 : decode xnc_ST_renew 7 = .ok (.putfield 89, 3) := by decide +kernel
theorem xnd_ST_renew_10 : decode xnc_ST_renew 10 = .ok (.aload_n 0, 1) := by decide +kernel
theorem xnd_ST_renew_11 : decode xnc_ST_renew 11 = .ok (.getfield 38, 3) := by decide +kernel
theorem xnd_ST_renew_14 : decode xnc_ST_renew 14 = .ok (.iload_n 1, 1) := by decide +kernel
theorem xnd_ST_renew_15 : decode xnc_ST_renew 15 = .ok (.aload_n 0, 1) := by decide +kernel
theorem xnd_ST_renew_16 : decode xnc_ST_renew 16 = .ok (.getfield 89, 3) := by decide +kernel
theorem xnd_ST_renew_19 : decode xnc_ST_renew 19 = .ok (.iastore, 1) := by decide +kernel
theorem xnd_ST_renew_20 : decode xnc_ST_renew 20 = .ok (.aload_n 0, 1) := by decide +kernel
theorem xnd_ST_renew_21 : decode xnc_ST_renew 21 = .ok (.getfield 41, 3) := by decide +kernel
theorem xnd_ST_renew_24 : decode xnc_ST_renew 24 = .ok (.iload_n 1, 1) := by decide +kernel
theorem xnd_ST_renew_25 : decode xnc_ST_renew 25 = .ok (.iload_n 2, 1) := by decide +kernel
theorem xnd_ST_renew_26 : decode xnc_ST_renew 26 = .ok (.ifCond .ne 7, 3) := by decide +kernel
theorem xnd_ST_renew_29 : decode xnc_ST_renew 29 = .ok (.iconst 0, 1) := by decide +kernel
theorem xnd_ST_renew_30 : decode xnc_ST_renew 30 = .ok (.goto 9, 3) := by decide +kernel
theorem xnd_ST_renew_33 : decode xnc_ST_renew 33 = .ok (.aload_n 0, 1) := by decide +kernel
theorem xnd_ST_renew_34 : decode xnc_ST_renew 34 = .ok (.getfield 57, 3) := by decide +kernel
theorem xnd_ST_renew_37 : decode xnc_ST_renew 37 = .ok (.iload_n 2, 1) := by decide +kernel
theorem xnd_ST_renew_38 : decode xnc_ST_renew 38 = .ok (.iadd, 1) := by decide +kernel
theorem xnd_ST_renew_39 : decode xnc_ST_renew 39 = .ok (.iastore, 1) := by decide +kernel
theorem xnd_ST_renew_40 : decode xnc_ST_renew 40 = .ok (.return_, 1) := by decide +kernel
theorem xnd_WR_evict_0 : decode xnc_WR_evict 0 = .ok (.iconst 0, 1) := by decide +kernel
theorem xnd_WR_evict_1 : decode xnc_WR_evict 1 = .ok (.istore_n 1, 1) := by decide +kernel
theorem xnd_WR_evict_2 : decode xnc_WR_evict 2 = .ok (.iload_n 1, 1) := by decide +kernel
theorem xnd_WR_evict_3 : decode xnc_WR_evict 3 = .ok (.aload_n 0, 1) := by decide +kernel
theorem xnd_WR_evict_4 : decode xnc_WR_evict 4 = .ok (.getfield 9, 3) := by decide +kernel
theorem xnd_WR_evict_7 : decode xnc_WR_evict 7 = .ok (.getfield 126, 3) := by decide +kernel
theorem xnd_WR_evict_10 : decode xnc_WR_evict 10 = .ok (.if_icmp .ge 41, 3) := by decide +kernel
theorem xnd_WR_evict_13 : decode xnc_WR_evict 13 = .ok (.aload_n 0, 1) := by decide +kernel
theorem xnd_WR_evict_14 : decode xnc_WR_evict 14 = .ok (.getfield 9, 3) := by decide +kernel
theorem xnd_WR_evict_17 : decode xnc_WR_evict 17 = .ok (.getfield 129, 3) := by decide +kernel
theorem xnd_WR_evict_20 : decode xnc_WR_evict 20 = .ok (.aload_n 0, 1) := by decide +kernel
theorem xnd_WR_evict_21 : decode xnc_WR_evict 21 = .ok (.getfield 133, 3) := by decide +kernel
theorem xnd_WR_evict_24 : decode xnc_WR_evict 24 = .ok (.baload, 1) := by decide +kernel
theorem xnd_WR_evict_25 : decode xnc_WR_evict 25 = .ok (.ifCond .eq 26, 3) := by decide +kernel
theorem xnd_WR_evict_28 : decode xnc_WR_evict 28 = .ok (.aload_n 0, 1) := by decide +kernel
theorem xnd_WR_evict_29 : decode xnc_WR_evict 29 = .ok (.getfield 9, 3) := by decide +kernel
theorem xnd_WR_evict_32 : decode xnc_WR_evict 32 = .ok (.getfield 129, 3) := by decide +kernel
theorem xnd_WR_evict_35 : decode xnc_WR_evict 35 = .ok (.aload_n 0, 1) := by decide +kernel
theorem xnd_WR_evict_36 : decode xnc_WR_evict 36 = .ok (.getfield 133, 3) := by decide +kernel
theorem xnd_WR_evict_39 : decode xnc_WR_evict 39 = .ok (.iconst 0, 1) := by decide +kernel
theorem xnd_WR_evict_40 : decode xnc_WR_evict 40 = .ok (.bastore, 1) := by decide +kernel
theorem xnd_WR_evict_41 : decode xnc_WR_evict 41 = .ok (.aload_n 0, 1) := by decide +kernel
theorem xnd_WR_evict_42 : decode xnc_WR_evict 42 = .ok (.invokevirtual 136, 3) := by decide +kernel
theorem xnd_WR_evict_45 : decode xnc_WR_evict 45 = .ok (.iinc 1 1, 3) := by decide +kernel
theorem xnd_WR_evict_48 : decode xnc_WR_evict 48 = .ok (.goto (-46), 3) := by decide +kernel
theorem xnd_WR_evict_51 : decode xnc_WR_evict 51 = .ok (.aload_n 0, 1) := by decide +kernel
theorem xnd_WR_evict_52 : decode xnc_WR_evict 52 = .ok (.getfield 9, 3) := by decide +kernel
theorem xnd_WR_evict_55 : decode xnc_WR_evict 55 = .ok (.aload_n 0, 1) := by decide +kernel
theorem xnd_WR_evict_56 : decode xnc_WR_evict 56 = .ok (.getfield 133, 3) := by decide +kernel
theorem xnd_WR_evict_59 : decode xnc_WR_evict 59 = .ok (.invokevirtual 91, 3) := by decide +kernel
theorem xnd_WR_evict_62 : decode xnc_WR_evict 62 = .ok (.aload_n 0, 1) := by decide +kernel
theorem xnd_WR_evict_63 : decode xnc_WR_evict 63 = .ok (.invokevirtual 136, 3) := by decide +kernel
theorem xnd_WR_evict_66 : decode xnc_WR_evict 66 = .ok (.aload_n 0, 1) := by decide +kernel
theorem xnd_WR_evict_67 : decode xnc_WR_evict 67 = .ok (.getfield 15, 3) := by decide +kernel
theorem xnd_WR_evict_70 : decode xnc_WR_evict 70 = .ok (.dup, 1) := by decide +kernel
theorem xnd_WR_evict_71 : decode xnc_WR_evict 71 = .ok (.getfield 139, 3) := by decide +kernel
theorem xnd_WR_evict_74 : decode xnc_WR_evict 74 = .ok (.iconst 1, 1) := by decide +kernel
theorem xnd_WR_evict_75 : decode xnc_WR_evict 75 = .ok (.iadd, 1) := by decide +kernel
theorem xnd_WR_evict_76 : decode xnc_WR_evict 76 = .ok (.putfield 139, 3) := by decide +kernel
theorem xnd_WR_evict_79 : decode xnc_WR_evict 79 = .ok (.aload_n 0, 1) := by decide +kernel
theorem xnd_WR_evict_80 : decode xnc_WR_evict 80 = .ok (.iconst 4, 1) := by decide +kernel
theorem xnd_WR_evict_81 : decode xnc_WR_evict 81 = .ok (.putfield 47, 3) := by decide +kernel
theorem xnd_WR_evict_84 : decode xnc_WR_evict 84 = .ok (.return_, 1) := by decide +kernel
theorem xnd_WR_turnHand_0 : decode xnc_WR_turnHand 0 = .ok (.aload_n 0, 1) := by decide +kernel
theorem xnd_WR_turnHand_1 : decode xnc_WR_turnHand 1 = .ok (.aload_n 0, 1) := by decide +kernel
theorem xnd_WR_turnHand_2 : decode xnc_WR_turnHand 2 = .ok (.getfield 133, 3) := by decide +kernel
theorem xnd_WR_turnHand_5 : decode xnc_WR_turnHand 5 = .ok (.iconst 1, 1) := by decide +kernel
theorem xnd_WR_turnHand_6 : decode xnc_WR_turnHand 6 = .ok (.iadd, 1) := by decide +kernel
theorem xnd_WR_turnHand_7 : decode xnc_WR_turnHand 7 = .ok (.aload_n 0, 1) := by decide +kernel
theorem xnd_WR_turnHand_8 : decode xnc_WR_turnHand 8 = .ok (.getfield 9, 3) := by decide +kernel
theorem xnd_WR_turnHand_11 : decode xnc_WR_turnHand 11 = .ok (.getfield 126, 3) := by decide +kernel
theorem xnd_WR_turnHand_14 : decode xnc_WR_turnHand 14 = .ok (.if_icmp .ge 12, 3) := by decide +kernel
theorem xnd_WR_turnHand_17 : decode xnc_WR_turnHand 17 = .ok (.aload_n 0, 1) := by decide +kernel
theorem xnd_WR_turnHand_18 : decode xnc_WR_turnHand 18 = .ok (.getfield 133, 3) := by decide +kernel
theorem xnd_WR_turnHand_21 : decode xnc_WR_turnHand 21 = .ok (.iconst 1, 1) := by decide +kernel
theorem xnd_WR_turnHand_22 : decode xnc_WR_turnHand 22 = .ok (.iadd, 1) := by decide +kernel
theorem xnd_WR_turnHand_23 : decode xnc_WR_turnHand 23 = .ok (.goto 4, 3) := by decide +kernel
theorem xnd_WR_turnHand_26 : decode xnc_WR_turnHand 26 = .ok (.iconst 0, 1) := by decide +kernel
theorem xnd_WR_turnHand_27 : decode xnc_WR_turnHand 27 = .ok (.putfield 133, 3) := by decide +kernel
theorem xnd_WR_turnHand_30 : decode xnc_WR_turnHand 30 = .ok (.return_, 1) := by decide +kernel
theorem xnd_WR_seekPath_0 : decode xnc_WR_seekPath 0 = .ok (.aload_n 0, 1) := by decide +kernel
theorem xnd_WR_seekPath_1 : decode xnc_WR_seekPath 1 = .ok (.getfield 24, 3) := by decide +kernel
theorem xnd_WR_seekPath_4 : decode xnc_WR_seekPath 4 = .ok (.aload_n 0, 1) := by decide +kernel
theorem xnd_WR_seekPath_5 : decode xnc_WR_seekPath 5 = .ok (.getfield 35, 3) := by decide +kernel
theorem xnd_WR_seekPath_8 : decode xnc_WR_seekPath 8 = .ok (.invokevirtual 142, 3) := by decide +kernel
theorem xnd_WR_seekPath_11 : decode xnc_WR_seekPath 11 = .ok (.ifCond .eq 21, 3) := by decide +kernel
theorem xnd_WR_seekPath_14 : decode xnc_WR_seekPath 14 = .ok (.aload_n 0, 1) := by decide +kernel
theorem xnd_WR_seekPath_15 : decode xnc_WR_seekPath 15 = .ok (.aload_n 0, 1) := by decide +kernel
theorem xnd_WR_seekPath_16 : decode xnc_WR_seekPath 16 = .ok (.getfield 24, 3) := by decide +kernel
theorem xnd_WR_seekPath_19 : decode xnc_WR_seekPath 19 = .ok (.getfield 145, 3) := by decide +kernel
theorem xnd_WR_seekPath_22 : decode xnc_WR_seekPath 22 = .ok (.putfield 148, 3) := by decide +kernel
theorem xnd_WR_seekPath_25 : decode xnc_WR_seekPath 25 = .ok (.aload_n 0, 1) := by decide +kernel
theorem xnd_WR_seekPath_26 : decode xnc_WR_seekPath 26 = .ok (.invokevirtual 151, 3) := by decide +kernel
theorem xnd_WR_seekPath_29 : decode xnc_WR_seekPath 29 = .ok (.goto 9, 3) := by decide +kernel
theorem xnd_WR_seekPath_32 : decode xnc_WR_seekPath 32 = .ok (.aload_n 0, 1) := by decide +kernel
theorem xnd_WR_seekPath_33 : decode xnc_WR_seekPath 33 = .ok (.bipush 6, 2) := by decide +kernel
theorem xnd_WR_seekPath_35 : decode xnc_WR_seekPath 35 = .ok (.putfield 28, 3) := by decide +kernel
theorem xnd_WR_seekPath_38 : decode xnc_WR_seekPath 38 = .ok (.return_, 1) := by decide +kernel
theorem xnd_PA_seek_0 : decode xnc_PA_seek 0 = .ok (.aload_n 0, 1) := by decide +kernel
theorem xnd_PA_seek_1 : decode xnc_PA_seek 1 = .ok (.iconst 0, 1) := by decide +kernel
theorem xnd_PA_seek_2 : decode xnc_PA_seek 2 = .ok (.putfield 33, 3) := by decide +kernel
theorem xnd_PA_seek_5 : decode xnc_PA_seek 5 = .ok (.aload_n 0, 1) := by decide +kernel
theorem xnd_PA_seek_6 : decode xnc_PA_seek 6 = .ok (.getfield 30, 3) := by decide +kernel
theorem xnd_PA_seek_9 : decode xnc_PA_seek 9 = .ok (.iconst (-1), 1) := by decide +kernel
theorem xnd_PA_seek_10 : decode xnc_PA_seek 10 = .ok (.invokestatic 37, 3) := by decide +kernel
theorem xnd_PA_seek_13 : decode xnc_PA_seek 13 = .ok (.aload_n 0, 1) := by decide +kernel
theorem xnd_PA_seek_14 : decode xnc_PA_seek 14 = .ok (.iload_n 1, 1) := by decide +kernel
theorem xnd_PA_seek_15 : decode xnc_PA_seek 15 = .ok (.invokestatic 43, 3) := by decide +kernel
theorem xnd_PA_seek_18 : decode xnc_PA_seek 18 = .ok (.iconst (-1), 1) := by decide +kernel
theorem xnd_PA_seek_19 : decode xnc_PA_seek 19 = .ok (.iconst 0, 1) := by decide +kernel
theorem xnd_PA_seek_20 : decode xnc_PA_seek 20 = .ok (.invokevirtual 47, 3) := by decide +kernel
theorem xnd_PA_seek_23 : decode xnc_PA_seek 23 = .ok (.aload_n 0, 1) := by decide +kernel
theorem xnd_PA_seek_24 : decode xnc_PA_seek 24 = .ok (.iload_n 1, 1) := by decide +kernel
theorem xnd_PA_seek_25 : decode xnc_PA_seek 25 = .ok (.invokestatic 51, 3) := by decide +kernel
theorem xnd_PA_seek_28 : decode xnc_PA_seek 28 = .ok (.iconst (-1), 1) := by decide +kernel
theorem xnd_PA_seek_29 : decode xnc_PA_seek 29 = .ok (.iconst 0, 1) := by decide +kernel
theorem xnd_PA_seek_30 : decode xnc_PA_seek 30 = .ok (.invokevirtual 47, 3) := by decide +kernel
theorem xnd_PA_seek_33 : decode xnc_PA_seek 33 = .ok (.iconst 0, 1) := by decide +kernel
theorem xnd_PA_seek_34 : decode xnc_PA_seek 34 = .ok (.istore_n 2, 1) := by decide +kernel
theorem xnd_PA_seek_35 : decode xnc_PA_seek 35 = .ok (.iload_n 2, 1) := by decide +kernel
theorem xnd_PA_seek_36 : decode xnc_PA_seek 36 = .ok (.aload_n 0, 1) := by decide +kernel
theorem xnd_PA_seek_37 : decode xnc_PA_seek 37 = .ok (.getfield 24, 3) := by decide +kernel
theorem xnd_PA_seek_40 : decode xnc_PA_seek 40 = .ok (.arraylength, 1) := by decide +kernel
theorem xnd_PA_seek_41 : decode xnc_PA_seek 41 = .ok (.if_icmp .ge 96, 3) := by decide +kernel
theorem xnd_PA_seek_44 : decode xnc_PA_seek 44 = .ok (.iload_n 2, 1) := by decide +kernel
theorem xnd_PA_seek_45 : decode xnc_PA_seek 45 = .ok (.aload_n 0, 1) := by decide +kernel
theorem xnd_PA_seek_46 : decode xnc_PA_seek 46 = .ok (.getfield 33, 3) := by decide +kernel
theorem xnd_PA_seek_49 : decode xnc_PA_seek 49 = .ok (.if_icmp .ge 88, 3) := by decide +kernel
theorem xnd_PA_seek_52 : decode xnc_PA_seek 52 = .ok (.aload_n 0, 1) := by decide +kernel
theorem xnd_PA_seek_53 : decode xnc_PA_seek 53 = .ok (.getfield 24, 3) := by decide +kernel
theorem xnd_PA_seek_56 : decode xnc_PA_seek 56 = .ok (.iload_n 2, 1) := by decide +kernel
theorem xnd_PA_seek_57 : decode xnc_PA_seek 57 = .ok (.iaload, 1) := by decide +kernel
theorem xnd_PA_seek_58 : decode xnc_PA_seek 58 = .ok (.istore_n 3, 1) := by decide +kernel
theorem xnd_PA_seek_59 : decode xnc_PA_seek 59 = .ok (.aload_n 0, 1) := by decide +kernel
theorem xnd_PA_seek_60 : decode xnc_PA_seek 60 = .ok (.getfield 9, 3) := by decide +kernel
theorem xnd_PA_seek_63 : decode xnc_PA_seek 63 = .ok (.getfield 19, 3) := by decide +kernel
theorem xnd_PA_seek_66 : decode xnc_PA_seek 66 = .ok (.iload_n 3, 1) := by decide +kernel
theorem xnd_PA_seek_67 : decode xnc_PA_seek 67 = .ok (.iaload, 1) := by decide +kernel
theorem xnd_PA_seek_68 : decode xnc_PA_seek 68 = .ok (.iconst (-1), 1) := by decide +kernel
theorem xnd_PA_seek_69 : decode xnc_PA_seek 69 = .ok (.if_icmp .ne 10, 3) := by decide +kernel
theorem xnd_PA_seek_72 : decode xnc_PA_seek 72 = .ok (.aload_n 0, 1) := by decide +kernel
theorem xnd_PA_seek_73 : decode xnc_PA_seek 73 = .ok (.iload_n 3, 1) := by decide +kernel
theorem xnd_PA_seek_74 : decode xnc_PA_seek 74 = .ok (.invokevirtual 54, 3) := by decide +kernel
theorem xnd_PA_seek_77 : decode xnc_PA_seek 77 = .ok (.iconst 1, 1) := by decide +kernel
theorem xnd_PA_seek_78 : decode xnc_PA_seek 78 = .ok (.ireturn, 1) := by decide +kernel
theorem xnd_PA_seek_79 : decode xnc_PA_seek 79 = .ok (.aload_n 0, 1) := by decide +kernel
theorem xnd_PA_seek_80 : decode xnc_PA_seek 80 = .ok (.getfield 30, 3) := by decide +kernel
theorem xnd_PA_seek_83 : decode xnc_PA_seek 83 = .ok (.iload_n 3, 1) := by decide +kernel
theorem xnd_PA_seek_84 : decode xnc_PA_seek 84 = .ok (.iaload, 1) := by decide +kernel
theorem xnd_PA_seek_85 : decode xnc_PA_seek 85 = .ok (.iconst 4, 1) := by decide +kernel
theorem xnd_PA_seek_86 : decode xnc_PA_seek 86 = .ok (.if_icmp .ge 45, 3) := by decide +kernel
theorem xnd_PA_seek_89 : decode xnc_PA_seek 89 = .ok (.aload_n 0, 1) := by decide +kernel
theorem xnd_PA_seek_90 : decode xnc_PA_seek 90 = .ok (.iload_n 3, 1) := by decide +kernel
theorem xnd_PA_seek_91 : decode xnc_PA_seek 91 = .ok (.aload_n 0, 1) := by decide +kernel
theorem xnd_PA_seek_92 : decode xnc_PA_seek 92 = .ok (.getfield 9, 3) := by decide +kernel
theorem xnd_PA_seek_95 : decode xnc_PA_seek 95 = .ok (.getfield 58, 3) := by decide +kernel
theorem xnd_PA_seek_98 : decode xnc_PA_seek 98 = .ok (.idiv, 1) := by decide +kernel
theorem xnd_PA_seek_99 : decode xnc_PA_seek 99 = .ok (.aload_n 0, 1) := by decide +kernel
theorem xnd_PA_seek_100 : decode xnc_PA_seek 100 = .ok (.getfield 9, 3) := by decide +kernel
theorem xnd_PA_seek_103 : decode xnc_PA_seek 103 = .ok (.getfield 61, 3) := by decide +kernel
theorem xnd_PA_seek_106 : decode xnc_PA_seek 106 = .ok (.aload_n 0, 1) := by decide +kernel
theorem xnd_PA_seek_107 : decode xnc_PA_seek 107 = .ok (.getfield 9, 3) := by decide +kernel
theorem xnd_PA_seek_110 : decode xnc_PA_seek 110 = .ok (.getfield 19, 3) := by decide +kernel
theorem xnd_PA_seek_113 : decode xnc_PA_seek 113 = .ok (.iload_n 3, 1) := by decide +kernel
theorem xnd_PA_seek_114 : decode xnc_PA_seek 114 = .ok (.iaload, 1) := by decide +kernel
theorem xnd_PA_seek_115 : decode xnc_PA_seek 115 = .ok (.iaload, 1) := by decide +kernel
theorem xnd_PA_seek_116 : decode xnc_PA_seek 116 = .ok (.invokestatic 64, 3) := by decide +kernel
theorem xnd_PA_seek_119 : decode xnc_PA_seek 119 = .ok (.iload_n 3, 1) := by decide +kernel
theorem xnd_PA_seek_120 : decode xnc_PA_seek 120 = .ok (.aload_n 0, 1) := by decide +kernel
theorem xnd_PA_seek_121 : decode xnc_PA_seek 121 = .ok (.getfield 30, 3) := by decide +kernel
theorem xnd_PA_seek_124 : decode xnc_PA_seek 124 = .ok (.iload_n 3, 1) := by decide +kernel
theorem xnd_PA_seek_125 : decode xnc_PA_seek 125 = .ok (.iaload, 1) := by decide +kernel
theorem xnd_PA_seek_126 : decode xnc_PA_seek 126 = .ok (.iconst 1, 1) := by decide +kernel
theorem xnd_PA_seek_127 : decode xnc_PA_seek 127 = .ok (.iadd, 1) := by decide +kernel
theorem xnd_PA_seek_128 : decode xnc_PA_seek 128 = .ok (.invokevirtual 47, 3) := by decide +kernel
theorem xnd_PA_seek_131 : decode xnc_PA_seek 131 = .ok (.iinc 2 1, 3) := by decide +kernel
theorem xnd_PA_seek_134 : decode xnc_PA_seek 134 = .ok (.goto (-99), 3) := by decide +kernel
theorem xnd_PA_seek_137 : decode xnc_PA_seek 137 = .ok (.iconst 0, 1) := by decide +kernel
theorem xnd_PA_seek_138 : decode xnc_PA_seek 138 = .ok (.ireturn, 1) := by decide +kernel
theorem xnd_PA_enter_0 : decode xnc_PA_enter 0 = .ok (.aload_n 0, 1) := by decide +kernel
theorem xnd_PA_enter_1 : decode xnc_PA_enter 1 = .ok (.getfield 9, 3) := by decide +kernel
theorem xnd_PA_enter_4 : decode xnc_PA_enter 4 = .ok (.getfield 58, 3) := by decide +kernel
theorem xnd_PA_enter_7 : decode xnc_PA_enter 7 = .ok (.iload_n 1, 1) := by decide +kernel
theorem xnd_PA_enter_8 : decode xnc_PA_enter 8 = .ok (.iconst 1, 1) := by decide +kernel
theorem xnd_PA_enter_9 : decode xnc_PA_enter 9 = .ok (.iadd, 1) := by decide +kernel
theorem xnd_PA_enter_10 : decode xnc_PA_enter 10 = .ok (.imul, 1) := by decide +kernel
theorem xnd_PA_enter_11 : decode xnc_PA_enter 11 = .ok (.istore 4, 2) := by decide +kernel
theorem xnd_PA_enter_13 : decode xnc_PA_enter 13 = .ok (.aload_n 0, 1) := by decide +kernel
theorem xnd_PA_enter_14 : decode xnc_PA_enter 14 = .ok (.getfield 9, 3) := by decide +kernel
theorem xnd_PA_enter_17 : decode xnc_PA_enter 17 = .ok (.getfield 58, 3) := by decide +kernel
theorem xnd_PA_enter_20 : decode xnc_PA_enter 20 = .ok (.iload_n 1, 1) := by decide +kernel
theorem xnd_PA_enter_21 : decode xnc_PA_enter 21 = .ok (.imul, 1) := by decide +kernel
theorem xnd_PA_enter_22 : decode xnc_PA_enter 22 = .ok (.istore 5, 2) := by decide +kernel
theorem xnd_PA_enter_24 : decode xnc_PA_enter 24 = .ok (.iload 5, 2) := by decide +kernel
theorem xnd_PA_enter_26 : decode xnc_PA_enter 26 = .ok (.iload 4, 2) := by decide +kernel
theorem xnd_PA_enter_28 : decode xnc_PA_enter 28 = .ok (.if_icmp .ge 57, 3) := by decide +kernel
theorem xnd_PA_enter_31 : decode xnc_PA_enter 31 = .ok (.aload_n 0, 1) := by decide +kernel
theorem xnd_PA_enter_32 : decode xnc_PA_enter 32 = .ok (.getfield 30, 3) := by decide +kernel
theorem xnd_PA_enter_35 : decode xnc_PA_enter 35 = .ok (.iload 5, 2) := by decide +kernel
theorem xnd_PA_enter_37 : decode xnc_PA_enter 37 = .ok (.iaload, 1) := by decide +kernel
theorem xnd_PA_enter_38 : decode xnc_PA_enter 38 = .ok (.iconst (-1), 1) := by decide +kernel
theorem xnd_PA_enter_39 : decode xnc_PA_enter 39 = .ok (.if_icmp .ne 40, 3) := by decide +kernel
theorem xnd_PA_enter_42 : decode xnc_PA_enter 42 = .ok (.aload_n 0, 1) := by decide +kernel
theorem xnd_PA_enter_43 : decode xnc_PA_enter 43 = .ok (.getfield 30, 3) := by decide +kernel
theorem xnd_PA_enter_46 : decode xnc_PA_enter 46 = .ok (.iload 5, 2) := by decide +kernel
theorem xnd_PA_enter_48 : decode xnc_PA_enter 48 = .ok (.iload_n 3, 1) := by decide +kernel
theorem xnd_PA_enter_49 : decode xnc_PA_enter 49 = .ok (.iastore, 1) := by decide +kernel
theorem xnd_PA_enter_50 : decode xnc_PA_enter 50 = .ok (.aload_n 0, 1) := by decide +kernel
theorem xnd_PA_enter_51 : decode xnc_PA_enter 51 = .ok (.getfield 27, 3) := by decide +kernel
theorem xnd_PA_enter_54 : decode xnc_PA_enter 54 = .ok (.iload 5, 2) := by decide +kernel
theorem xnd_PA_enter_56 : decode xnc_PA_enter 56 = .ok (.iload_n 2, 1) := by decide +kernel
theorem xnd_PA_enter_57 : decode xnc_PA_enter 57 = .ok (.iastore, 1) := by decide +kernel
theorem xnd_PA_enter_58 : decode xnc_PA_enter 58 = .ok (.aload_n 0, 1) := by decide +kernel
theorem xnd_PA_enter_59 : decode xnc_PA_enter 59 = .ok (.getfield 24, 3) := by decide +kernel
theorem xnd_PA_enter_62 : decode xnc_PA_enter 62 = .ok (.aload_n 0, 1) := by decide +kernel
theorem xnd_PA_enter_63 : decode xnc_PA_enter 63 = .ok (.getfield 33, 3) := by decide +kernel
theorem xnd_PA_enter_66 : decode xnc_PA_enter 66 = .ok (.iload 5, 2) := by decide +kernel
theorem xnd_PA_enter_68 : decode xnc_PA_enter 68 = .ok (.iastore, 1) := by decide +kernel
theorem xnd_PA_enter_69 : decode xnc_PA_enter 69 = .ok (.aload_n 0, 1) := by decide +kernel
theorem xnd_PA_enter_70 : decode xnc_PA_enter 70 = .ok (.dup, 1) := by decide +kernel
theorem xnd_PA_enter_71 : decode xnc_PA_enter 71 = .ok (.getfield 33, 3) := by decide +kernel
theorem xnd_PA_enter_74 : decode xnc_PA_enter 74 = .ok (.iconst 1, 1) := by decide +kernel
theorem xnd_PA_enter_75 : decode xnc_PA_enter 75 = .ok (.iadd, 1) := by decide +kernel
theorem xnd_PA_enter_76 : decode xnc_PA_enter 76 = .ok (.putfield 33, 3) := by decide +kernel
theorem xnd_PA_enter_79 : decode xnc_PA_enter 79 = .ok (.iinc 5 1, 3) := by decide +kernel
theorem xnd_PA_enter_82 : decode xnc_PA_enter 82 = .ok (.goto (-58), 3) := by decide +kernel
theorem xnd_PA_enter_85 : decode xnc_PA_enter 85 = .ok (.return_, 1) := by decide +kernel
theorem xnd_PA_keep_0 : decode xnc_PA_keep 0 = .ok (.aload_n 0, 1) := by decide +kernel
theorem xnd_PA_keep_1 : decode xnc_PA_keep 1 = .ok (.aload_n 0, 1) := by decide +kernel
theorem xnd_PA_keep_2 : decode xnc_PA_keep 2 = .ok (.getfield 30, 3) := by decide +kernel
theorem xnd_PA_keep_5 : decode xnc_PA_keep 5 = .ok (.iload_n 1, 1) := by decide +kernel
theorem xnd_PA_keep_6 : decode xnc_PA_keep 6 = .ok (.iaload, 1) := by decide +kernel
theorem xnd_PA_keep_7 : decode xnc_PA_keep 7 = .ok (.putfield 68, 3) := by decide +kernel
theorem xnd_PA_keep_10 : decode xnc_PA_keep 10 = .ok (.iload_n 1, 1) := by decide +kernel
theorem xnd_PA_keep_11 : decode xnc_PA_keep 11 = .ok (.istore_n 2, 1) := by decide +kernel
theorem xnd_PA_keep_12 : decode xnc_PA_keep 12 = .ok (.aload_n 0, 1) := by decide +kernel
theorem xnd_PA_keep_13 : decode xnc_PA_keep 13 = .ok (.getfield 68, 3) := by decide +kernel
theorem xnd_PA_keep_16 : decode xnc_PA_keep 16 = .ok (.istore_n 3, 1) := by decide +kernel
theorem xnd_PA_keep_17 : decode xnc_PA_keep 17 = .ok (.iload_n 3, 1) := by decide +kernel
theorem xnd_PA_keep_18 : decode xnc_PA_keep 18 = .ok (.ifCond .le 23, 3) := by decide +kernel
theorem xnd_PA_keep_21 : decode xnc_PA_keep 21 = .ok (.aload_n 0, 1) := by decide +kernel
theorem xnd_PA_keep_22 : decode xnc_PA_keep 22 = .ok (.getfield 15, 3) := by decide +kernel
theorem xnd_PA_keep_25 : decode xnc_PA_keep 25 = .ok (.iload_n 3, 1) := by decide +kernel
theorem xnd_PA_keep_26 : decode xnc_PA_keep 26 = .ok (.iload_n 2, 1) := by decide +kernel
theorem xnd_PA_keep_27 : decode xnc_PA_keep 27 = .ok (.iastore, 1) := by decide +kernel
theorem xnd_PA_keep_28 : decode xnc_PA_keep 28 = .ok (.aload_n 0, 1) := by decide +kernel
theorem xnd_PA_keep_29 : decode xnc_PA_keep 29 = .ok (.getfield 27, 3) := by decide +kernel
theorem xnd_PA_keep_32 : decode xnc_PA_keep 32 = .ok (.iload_n 2, 1) := by decide +kernel
theorem xnd_PA_keep_33 : decode xnc_PA_keep 33 = .ok (.iaload, 1) := by decide +kernel
theorem xnd_PA_keep_34 : decode xnc_PA_keep 34 = .ok (.istore_n 2, 1) := by decide +kernel
theorem xnd_PA_keep_35 : decode xnc_PA_keep 35 = .ok (.iinc 3 (-1), 3) := by decide +kernel
theorem xnd_PA_keep_38 : decode xnc_PA_keep 38 = .ok (.goto (-21), 3) := by decide +kernel
theorem xnd_PA_keep_41 : decode xnc_PA_keep 41 = .ok (.aload_n 0, 1) := by decide +kernel
theorem xnd_PA_keep_42 : decode xnc_PA_keep 42 = .ok (.getfield 15, 3) := by decide +kernel
theorem xnd_PA_keep_45 : decode xnc_PA_keep 45 = .ok (.iconst 0, 1) := by decide +kernel
theorem xnd_PA_keep_46 : decode xnc_PA_keep 46 = .ok (.iload_n 2, 1) := by decide +kernel
theorem xnd_PA_keep_47 : decode xnc_PA_keep 47 = .ok (.iastore, 1) := by decide +kernel
theorem xnd_PA_keep_48 : decode xnc_PA_keep 48 = .ok (.return_, 1) := by decide +kernel
theorem xnd_WR_chooseMove_0 : decode xnc_WR_chooseMove 0 = .ok (.aload_n 0, 1) := by decide +kernel
theorem xnd_WR_chooseMove_1 : decode xnc_WR_chooseMove 1 = .ok (.dup, 1) := by decide +kernel
theorem xnd_WR_chooseMove_2 : decode xnc_WR_chooseMove 2 = .ok (.getfield 148, 3) := by decide +kernel
theorem xnd_WR_chooseMove_5 : decode xnc_WR_chooseMove 5 = .ok (.iconst 1, 1) := by decide +kernel
theorem xnd_WR_chooseMove_6 : decode xnc_WR_chooseMove 6 = .ok (.isub, 1) := by decide +kernel
theorem xnd_WR_chooseMove_7 : decode xnc_WR_chooseMove 7 = .ok (.putfield 148, 3) := by decide +kernel
theorem xnd_WR_chooseMove_10 : decode xnc_WR_chooseMove 10 = .ok (.aload_n 0, 1) := by decide +kernel
theorem xnd_WR_chooseMove_11 : decode xnc_WR_chooseMove 11 = .ok (.aload_n 0, 1) := by decide +kernel
theorem xnd_WR_chooseMove_12 : decode xnc_WR_chooseMove 12 = .ok (.getfield 148, 3) := by decide +kernel
theorem xnd_WR_chooseMove_15 : decode xnc_WR_chooseMove 15 = .ok (.ifCond .lt 7, 3) := by decide +kernel
theorem xnd_WR_chooseMove_18 : decode xnc_WR_chooseMove 18 = .ok (.iconst 5, 1) := by decide +kernel
theorem xnd_WR_chooseMove_19 : decode xnc_WR_chooseMove 19 = .ok (.goto 5, 3) := by decide +kernel
theorem xnd_WR_chooseMove_22 : decode xnc_WR_chooseMove 22 = .ok (.bipush 7, 2) := by decide +kernel
theorem xnd_WR_chooseMove_24 : decode xnc_WR_chooseMove 24 = .ok (.putfield 47, 3) := by decide +kernel
theorem xnd_WR_chooseMove_27 : decode xnc_WR_chooseMove 27 = .ok (.return_, 1) := by decide +kernel
theorem xnd_WR_moveOn_0 : decode xnc_WR_moveOn 0 = .ok (.aload_n 0, 1) := by decide +kernel
theorem xnd_WR_moveOn_1 : decode xnc_WR_moveOn 1 = .ok (.getfield 9, 3) := by decide +kernel
theorem xnd_WR_moveOn_4 : decode xnc_WR_moveOn 4 = .ok (.getfield 80, 3) := by decide +kernel
theorem xnd_WR_moveOn_7 : decode xnc_WR_moveOn 7 = .ok (.aload_n 0, 1) := by decide +kernel
theorem xnd_WR_moveOn_8 : decode xnc_WR_moveOn 8 = .ok (.getfield 24, 3) := by decide +kernel
theorem xnd_WR_moveOn_11 : decode xnc_WR_moveOn 11 = .ok (.getfield 154, 3) := by decide +kernel
theorem xnd_WR_moveOn_14 : decode xnc_WR_moveOn 14 = .ok (.aload_n 0, 1) := by decide +kernel
theorem xnd_WR_moveOn_15 : decode xnc_WR_moveOn 15 = .ok (.getfield 148, 3) := by decide +kernel
theorem xnd_WR_moveOn_18 : decode xnc_WR_moveOn 18 = .ok (.iaload, 1) := by decide +kernel
theorem xnd_WR_moveOn_19 : decode xnc_WR_moveOn 19 = .ok (.iaload, 1) := by decide +kernel
theorem xnd_WR_moveOn_20 : decode xnc_WR_moveOn 20 = .ok (.istore_n 1, 1) := by decide +kernel
theorem xnd_WR_moveOn_21 : decode xnc_WR_moveOn 21 = .ok (.aload_n 0, 1) := by decide +kernel
theorem xnd_WR_moveOn_22 : decode xnc_WR_moveOn 22 = .ok (.getfield 9, 3) := by decide +kernel
theorem xnd_WR_moveOn_25 : decode xnc_WR_moveOn 25 = .ok (.aload_n 0, 1) := by decide +kernel
theorem xnd_WR_moveOn_26 : decode xnc_WR_moveOn 26 = .ok (.getfield 9, 3) := by decide +kernel
theorem xnd_WR_moveOn_29 : decode xnc_WR_moveOn 29 = .ok (.getfield 157, 3) := by decide +kernel
theorem xnd_WR_moveOn_32 : decode xnc_WR_moveOn 32 = .ok (.iload_n 1, 1) := by decide +kernel
theorem xnd_WR_moveOn_33 : decode xnc_WR_moveOn 33 = .ok (.iaload, 1) := by decide +kernel
theorem xnd_WR_moveOn_34 : decode xnc_WR_moveOn 34 = .ok (.iconst 1, 1) := by decide +kernel
theorem xnd_WR_moveOn_35 : decode xnc_WR_moveOn 35 = .ok (.invokevirtual 116, 3) := by decide +kernel
theorem xnd_WR_moveOn_38 : decode xnc_WR_moveOn 38 = .ok (.aload_n 0, 1) := by decide +kernel
theorem xnd_WR_moveOn_39 : decode xnc_WR_moveOn 39 = .ok (.getfield 9, 3) := by decide +kernel
theorem xnd_WR_moveOn_42 : decode xnc_WR_moveOn 42 = .ok (.getfield 80, 3) := by decide +kernel
theorem xnd_WR_moveOn_45 : decode xnc_WR_moveOn 45 = .ok (.aload_n 0, 1) := by decide +kernel
theorem xnd_WR_moveOn_46 : decode xnc_WR_moveOn 46 = .ok (.getfield 24, 3) := by decide +kernel
theorem xnd_WR_moveOn_49 : decode xnc_WR_moveOn 49 = .ok (.getfield 154, 3) := by decide +kernel
theorem xnd_WR_moveOn_52 : decode xnc_WR_moveOn 52 = .ok (.aload_n 0, 1) := by decide +kernel
theorem xnd_WR_moveOn_53 : decode xnc_WR_moveOn 53 = .ok (.getfield 148, 3) := by decide +kernel
theorem xnd_WR_moveOn_56 : decode xnc_WR_moveOn 56 = .ok (.iconst 1, 1) := by decide +kernel
theorem xnd_WR_moveOn_57 : decode xnc_WR_moveOn 57 = .ok (.iadd, 1) := by decide +kernel
theorem xnd_WR_moveOn_58 : decode xnc_WR_moveOn 58 = .ok (.iaload, 1) := by decide +kernel
theorem xnd_WR_moveOn_59 : decode xnc_WR_moveOn 59 = .ok (.iload_n 1, 1) := by decide +kernel
theorem xnd_WR_moveOn_60 : decode xnc_WR_moveOn 60 = .ok (.iastore, 1) := by decide +kernel
theorem xnd_WR_moveOn_61 : decode xnc_WR_moveOn 61 = .ok (.aload_n 0, 1) := by decide +kernel
theorem xnd_WR_moveOn_62 : decode xnc_WR_moveOn 62 = .ok (.bipush 6, 2) := by decide +kernel
theorem xnd_WR_moveOn_64 : decode xnc_WR_moveOn 64 = .ok (.putfield 47, 3) := by decide +kernel
theorem xnd_WR_moveOn_67 : decode xnc_WR_moveOn 67 = .ok (.return_, 1) := by decide +kernel
theorem xnd_WR_moveOff_0 : decode xnc_WR_moveOff 0 = .ok (.aload_n 0, 1) := by decide +kernel
theorem xnd_WR_moveOff_1 : decode xnc_WR_moveOff 1 = .ok (.getfield 9, 3) := by decide +kernel
theorem xnd_WR_moveOff_4 : decode xnc_WR_moveOff 4 = .ok (.getfield 80, 3) := by decide +kernel
theorem xnd_WR_moveOff_7 : decode xnc_WR_moveOff 7 = .ok (.aload_n 0, 1) := by decide +kernel
theorem xnd_WR_moveOff_8 : decode xnc_WR_moveOff 8 = .ok (.getfield 24, 3) := by decide +kernel
theorem xnd_WR_moveOff_11 : decode xnc_WR_moveOff 11 = .ok (.getfield 154, 3) := by decide +kernel
theorem xnd_WR_moveOff_14 : decode xnc_WR_moveOff 14 = .ok (.aload_n 0, 1) := by decide +kernel
theorem xnd_WR_moveOff_15 : decode xnc_WR_moveOff 15 = .ok (.getfield 148, 3) := by decide +kernel
theorem xnd_WR_moveOff_18 : decode xnc_WR_moveOff 18 = .ok (.iaload, 1) := by decide +kernel
theorem xnd_WR_moveOff_19 : decode xnc_WR_moveOff 19 = .ok (.iaload, 1) := by decide +kernel
theorem xnd_WR_moveOff_20 : decode xnc_WR_moveOff 20 = .ok (.istore_n 1, 1) := by decide +kernel
theorem xnd_WR_moveOff_21 : decode xnc_WR_moveOff 21 = .ok (.aload_n 0, 1) := by decide +kernel
theorem xnd_WR_moveOff_22 : decode xnc_WR_moveOff 22 = .ok (.getfield 9, 3) := by decide +kernel
theorem xnd_WR_moveOff_25 : decode xnc_WR_moveOff 25 = .ok (.getfield 80, 3) := by decide +kernel
theorem xnd_WR_moveOff_28 : decode xnc_WR_moveOff 28 = .ok (.aload_n 0, 1) := by decide +kernel
theorem xnd_WR_moveOff_29 : decode xnc_WR_moveOff 29 = .ok (.getfield 24, 3) := by decide +kernel
theorem xnd_WR_moveOff_32 : decode xnc_WR_moveOff 32 = .ok (.getfield 154, 3) := by decide +kernel
theorem xnd_WR_moveOff_35 : decode xnc_WR_moveOff 35 = .ok (.aload_n 0, 1) := by decide +kernel
theorem xnd_WR_moveOff_36 : decode xnc_WR_moveOff 36 = .ok (.getfield 148, 3) := by decide +kernel
theorem xnd_WR_moveOff_39 : decode xnc_WR_moveOff 39 = .ok (.iaload, 1) := by decide +kernel
theorem xnd_WR_moveOff_40 : decode xnc_WR_moveOff 40 = .ok (.iconst (-1), 1) := by decide +kernel
theorem xnd_WR_moveOff_41 : decode xnc_WR_moveOff 41 = .ok (.iastore, 1) := by decide +kernel
theorem xnd_WR_moveOff_42 : decode xnc_WR_moveOff 42 = .ok (.aload_n 0, 1) := by decide +kernel
theorem xnd_WR_moveOff_43 : decode xnc_WR_moveOff 43 = .ok (.getfield 9, 3) := by decide +kernel
theorem xnd_WR_moveOff_46 : decode xnc_WR_moveOff 46 = .ok (.aload_n 0, 1) := by decide +kernel
theorem xnd_WR_moveOff_47 : decode xnc_WR_moveOff 47 = .ok (.getfield 9, 3) := by decide +kernel
theorem xnd_WR_moveOff_50 : decode xnc_WR_moveOff 50 = .ok (.getfield 157, 3) := by decide +kernel
theorem xnd_WR_moveOff_53 : decode xnc_WR_moveOff 53 = .ok (.iload_n 1, 1) := by decide +kernel
theorem xnd_WR_moveOff_54 : decode xnc_WR_moveOff 54 = .ok (.iaload, 1) := by decide +kernel
theorem xnd_WR_moveOff_55 : decode xnc_WR_moveOff 55 = .ok (.iconst 1, 1) := by decide +kernel
theorem xnd_WR_moveOff_56 : decode xnc_WR_moveOff 56 = .ok (.invokevirtual 116, 3) := by decide +kernel
theorem xnd_WR_moveOff_59 : decode xnc_WR_moveOff 59 = .ok (.aload_n 0, 1) := by decide +kernel
theorem xnd_WR_moveOff_60 : decode xnc_WR_moveOff 60 = .ok (.getfield 15, 3) := by decide +kernel
theorem xnd_WR_moveOff_63 : decode xnc_WR_moveOff 63 = .ok (.dup, 1) := by decide +kernel
theorem xnd_WR_moveOff_64 : decode xnc_WR_moveOff 64 = .ok (.getfield 160, 3) := by decide +kernel
theorem xnd_WR_moveOff_67 : decode xnc_WR_moveOff 67 = .ok (.iconst 1, 1) := by decide +kernel
theorem xnd_WR_moveOff_68 : decode xnc_WR_moveOff 68 = .ok (.iadd, 1) := by decide +kernel
theorem xnd_WR_moveOff_69 : decode xnc_WR_moveOff 69 = .ok (.putfield 160, 3) := by decide +kernel
theorem xnd_WR_moveOff_72 : decode xnc_WR_moveOff 72 = .ok (.aload_n 0, 1) := by decide +kernel
theorem xnd_WR_moveOff_73 : decode xnc_WR_moveOff 73 = .ok (.invokevirtual 151, 3) := by decide +kernel
theorem xnd_WR_moveOff_76 : decode xnc_WR_moveOff 76 = .ok (.return_, 1) := by decide +kernel
theorem xnd_WR_insertKey_0 : decode xnc_WR_insertKey 0 = .ok (.aload_n 0, 1) := by decide +kernel
theorem xnd_WR_insertKey_1 : decode xnc_WR_insertKey 1 = .ok (.getfield 9, 3) := by decide +kernel
theorem xnd_WR_insertKey_4 : decode xnc_WR_insertKey 4 = .ok (.aload_n 0, 1) := by decide +kernel
theorem xnd_WR_insertKey_5 : decode xnc_WR_insertKey 5 = .ok (.getfield 24, 3) := by decide +kernel
theorem xnd_WR_insertKey_8 : decode xnc_WR_insertKey 8 = .ok (.getfield 154, 3) := by decide +kernel
theorem xnd_WR_insertKey_11 : decode xnc_WR_insertKey 11 = .ok (.iconst 0, 1) := by decide +kernel
theorem xnd_WR_insertKey_12 : decode xnc_WR_insertKey 12 = .ok (.iaload, 1) := by decide +kernel
theorem xnd_WR_insertKey_13 : decode xnc_WR_insertKey 13 = .ok (.aload_n 0, 1) := by decide +kernel
theorem xnd_WR_insertKey_14 : decode xnc_WR_insertKey 14 = .ok (.getfield 35, 3) := by decide +kernel
theorem xnd_WR_insertKey_17 : decode xnc_WR_insertKey 17 = .ok (.aload_n 0, 1) := by decide +kernel
theorem xnd_WR_insertKey_18 : decode xnc_WR_insertKey 18 = .ok (.getfield 38, 3) := by decide +kernel
theorem xnd_WR_insertKey_21 : decode xnc_WR_insertKey 21 = .ok (.aload_n 0, 1) := by decide +kernel
theorem xnd_WR_insertKey_22 : decode xnc_WR_insertKey 22 = .ok (.getfield 41, 3) := by decide +kernel
theorem xnd_WR_insertKey_25 : decode xnc_WR_insertKey 25 = .ok (.invokevirtual 163, 3) := by decide +kernel
theorem xnd_WR_insertKey_28 : decode xnc_WR_insertKey 28 = .ok (.aload_n 0, 1) := by decide +kernel
theorem xnd_WR_insertKey_29 : decode xnc_WR_insertKey 29 = .ok (.iconst 1, 1) := by decide +kernel
theorem xnd_WR_insertKey_30 : decode xnc_WR_insertKey 30 = .ok (.putfield 28, 3) := by decide +kernel
theorem xnd_WR_insertKey_33 : decode xnc_WR_insertKey 33 = .ok (.return_, 1) := by decide +kernel
theorem xnd_ST_insert_0 : decode xnc_ST_insert 0 = .ok (.aload_n 0, 1) := by decide +kernel
theorem xnd_ST_insert_1 : decode xnc_ST_insert 1 = .ok (.invokevirtual 92, 3) := by decide +kernel
theorem xnd_ST_insert_4 : decode xnc_ST_insert 4 = .ok (.istore 5, 2) := by decide +kernel
theorem xnd_ST_insert_6 : decode xnc_ST_insert 6 = .ok (.aload_n 0, 1) := by decide +kernel
theorem xnd_ST_insert_7 : decode xnc_ST_insert 7 = .ok (.getfield 48, 3) := by decide +kernel
theorem xnd_ST_insert_10 : decode xnc_ST_insert 10 = .ok (.iload 5, 2) := by decide +kernel
theorem xnd_ST_insert_12 : decode xnc_ST_insert 12 = .ok (.iconst 1, 1) := by decide +kernel
theorem xnd_ST_insert_13 : decode xnc_ST_insert 13 = .ok (.bastore, 1) := by decide +kernel
theorem xnd_ST_insert_14 : decode xnc_ST_insert 14 = .ok (.aload_n 0, 1) := by decide +kernel
theorem xnd_ST_insert_15 : decode xnc_ST_insert 15 = .ok (.dup, 1) := by decide +kernel
theorem xnd_ST_insert_16 : decode xnc_ST_insert 16 = .ok (.getfield 54, 3) := by decide +kernel
theorem xnd_ST_insert_19 : decode xnc_ST_insert 19 = .ok (.iconst 1, 1) := by decide +kernel
theorem xnd_ST_insert_20 : decode xnc_ST_insert 20 = .ok (.iadd, 1) := by decide +kernel
theorem xnd_ST_insert_21 : decode xnc_ST_insert 21 = .ok (.putfield 54, 3) := by decide +kernel
theorem xnd_ST_insert_24 : decode xnc_ST_insert 24 = .ok (.aload_n 0, 1) := by decide +kernel
theorem xnd_ST_insert_25 : decode xnc_ST_insert 25 = .ok (.getfield 32, 3) := by decide +kernel
theorem xnd_ST_insert_28 : decode xnc_ST_insert 28 = .ok (.iload 5, 2) := by decide +kernel
theorem xnd_ST_insert_30 : decode xnc_ST_insert 30 = .ok (.iload_n 2, 1) := by decide +kernel
theorem xnd_ST_insert_31 : decode xnc_ST_insert 31 = .ok (.iastore, 1) := by decide +kernel
theorem xnd_ST_insert_32 : decode xnc_ST_insert 32 = .ok (.aload_n 0, 1) := by decide +kernel
theorem xnd_ST_insert_33 : decode xnc_ST_insert 33 = .ok (.getfield 35, 3) := by decide +kernel
theorem xnd_ST_insert_36 : decode xnc_ST_insert 36 = .ok (.iload 5, 2) := by decide +kernel
theorem xnd_ST_insert_38 : decode xnc_ST_insert 38 = .ok (.iload_n 3, 1) := by decide +kernel
theorem xnd_ST_insert_39 : decode xnc_ST_insert 39 = .ok (.iastore, 1) := by decide +kernel
theorem xnd_ST_insert_40 : decode xnc_ST_insert 40 = .ok (.aload_n 0, 1) := by decide +kernel
theorem xnd_ST_insert_41 : decode xnc_ST_insert 41 = .ok (.iload 5, 2) := by decide +kernel
theorem xnd_ST_insert_43 : decode xnc_ST_insert 43 = .ok (.iload 4, 2) := by decide +kernel
theorem xnd_ST_insert_45 : decode xnc_ST_insert 45 = .ok (.invokevirtual 96, 3) := by decide +kernel
theorem xnd_ST_insert_48 : decode xnc_ST_insert 48 = .ok (.aload_n 0, 1) := by decide +kernel
theorem xnd_ST_insert_49 : decode xnc_ST_insert 49 = .ok (.getfield 44, 3) := by decide +kernel
theorem xnd_ST_insert_52 : decode xnc_ST_insert 52 = .ok (.iload 5, 2) := by decide +kernel
theorem xnd_ST_insert_54 : decode xnc_ST_insert 54 = .ok (.iconst 0, 1) := by decide +kernel
theorem xnd_ST_insert_55 : decode xnc_ST_insert 55 = .ok (.bastore, 1) := by decide +kernel
theorem xnd_ST_insert_56 : decode xnc_ST_insert 56 = .ok (.aload_n 0, 1) := by decide +kernel
theorem xnd_ST_insert_57 : decode xnc_ST_insert 57 = .ok (.getfield 22, 3) := by decide +kernel
theorem xnd_ST_insert_60 : decode xnc_ST_insert 60 = .ok (.iload_n 1, 1) := by decide +kernel
theorem xnd_ST_insert_61 : decode xnc_ST_insert 61 = .ok (.iload 5, 2) := by decide +kernel
theorem xnd_ST_insert_63 : decode xnc_ST_insert 63 = .ok (.iastore, 1) := by decide +kernel
theorem xnd_ST_insert_64 : decode xnc_ST_insert 64 = .ok (.return_, 1) := by decide +kernel
theorem xnd_ST_lowestFree_0 : decode xnc_ST_lowestFree 0 = .ok (.iconst 0, 1) := by decide +kernel
theorem xnd_ST_lowestFree_1 : decode xnc_ST_lowestFree 1 = .ok (.istore_n 1, 1) := by decide +kernel
theorem xnd_ST_lowestFree_2 : decode xnc_ST_lowestFree 2 = .ok (.iload_n 1, 1) := by decide +kernel
theorem xnd_ST_lowestFree_3 : decode xnc_ST_lowestFree 3 = .ok (.aload_n 0, 1) := by decide +kernel
theorem xnd_ST_lowestFree_4 : decode xnc_ST_lowestFree 4 = .ok (.getfield 15, 3) := by decide +kernel
theorem xnd_ST_lowestFree_7 : decode xnc_ST_lowestFree 7 = .ok (.iconst 1, 1) := by decide +kernel
theorem xnd_ST_lowestFree_8 : decode xnc_ST_lowestFree 8 = .ok (.isub, 1) := by decide +kernel
theorem xnd_ST_lowestFree_9 : decode xnc_ST_lowestFree 9 = .ok (.if_icmp .ge 18, 3) := by decide +kernel
theorem xnd_ST_lowestFree_12 : decode xnc_ST_lowestFree 12 = .ok (.aload_n 0, 1) := by decide +kernel
theorem xnd_ST_lowestFree_13 : decode xnc_ST_lowestFree 13 = .ok (.getfield 48, 3) := by decide +kernel
theorem xnd_ST_lowestFree_16 : decode xnc_ST_lowestFree 16 = .ok (.iload_n 1, 1) := by decide +kernel
theorem xnd_ST_lowestFree_17 : decode xnc_ST_lowestFree 17 = .ok (.baload, 1) := by decide +kernel
theorem xnd_ST_lowestFree_18 : decode xnc_ST_lowestFree 18 = .ok (.ifCond .eq 9, 3) := by decide +kernel
theorem xnd_ST_lowestFree_21 : decode xnc_ST_lowestFree 21 = .ok (.iinc 1 1, 3) := by decide +kernel
theorem xnd_ST_lowestFree_24 : decode xnc_ST_lowestFree 24 = .ok (.goto (-22), 3) := by decide +kernel
theorem xnd_ST_lowestFree_27 : decode xnc_ST_lowestFree 27 = .ok (.iload_n 1, 1) := by decide +kernel
theorem xnd_ST_lowestFree_28 : decode xnc_ST_lowestFree 28 = .ok (.ireturn, 1) := by decide +kernel
theorem xnd_SC_outcome_0 : decode xnc_SC_outcome 0 = .ok (.aload_n 0, 1) := by decide +kernel
theorem xnd_SC_outcome_1 : decode xnc_SC_outcome 1 = .ok (.getfield 34, 3) := by decide +kernel
theorem xnd_SC_outcome_4 : decode xnc_SC_outcome 4 = .ok (.getfield 58, 3) := by decide +kernel
theorem xnd_SC_outcome_7 : decode xnc_SC_outcome 7 = .ok (.ireturn, 1) := by decide +kernel
theorem xnd_SC_get_0 : decode xnc_SC_get 0 = .ok (.iload_n 1, 1) := by decide +kernel
theorem xnd_SC_get_1 : decode xnc_SC_get 1 = .ok (.invokestatic 62, 3) := by decide +kernel
theorem xnd_SC_get_4 : decode xnc_SC_get 4 = .ok (.ifCond .eq 15, 3) := by decide +kernel
theorem xnd_SC_get_7 : decode xnc_SC_get 7 = .ok (.aload_n 0, 1) := by decide +kernel
theorem xnd_SC_get_8 : decode xnc_SC_get 8 = .ok (.getfield 40, 3) := by decide +kernel
theorem xnd_SC_get_11 : decode xnc_SC_get 11 = .ok (.iload_n 1, 1) := by decide +kernel
theorem xnd_SC_get_12 : decode xnc_SC_get 12 = .ok (.aaload, 1) := by decide +kernel
theorem xnd_SC_get_13 : decode xnc_SC_get 13 = .ok (.invokevirtual 66, 3) := by decide +kernel
theorem xnd_SC_get_16 : decode xnc_SC_get 16 = .ok (.ifCond .eq 5, 3) := by decide +kernel
theorem xnd_SC_get_19 : decode xnc_SC_get 19 = .ok (.iconst 0, 1) := by decide +kernel
theorem xnd_SC_get_20 : decode xnc_SC_get 20 = .ok (.ireturn, 1) := by decide +kernel
theorem xnd_SC_get_21 : decode xnc_SC_get 21 = .ok (.aload_n 0, 1) := by decide +kernel
theorem xnd_SC_get_22 : decode xnc_SC_get 22 = .ok (.getfield 40, 3) := by decide +kernel
theorem xnd_SC_get_25 : decode xnc_SC_get 25 = .ok (.iload_n 1, 1) := by decide +kernel
theorem xnd_SC_get_26 : decode xnc_SC_get 26 = .ok (.aaload, 1) := by decide +kernel
theorem xnd_SC_get_27 : decode xnc_SC_get 27 = .ok (.iload_n 2, 1) := by decide +kernel
theorem xnd_SC_get_28 : decode xnc_SC_get 28 = .ok (.invokevirtual 67, 3) := by decide +kernel
theorem xnd_SC_get_31 : decode xnc_SC_get 31 = .ok (.iconst 1, 1) := by decide +kernel
theorem xnd_SC_get_32 : decode xnc_SC_get 32 = .ok (.ireturn, 1) := by decide +kernel
theorem xnd_SC_isReader_0 : decode xnc_SC_isReader 0 = .ok (.iload_n 0, 1) := by decide +kernel
theorem xnd_SC_isReader_1 : decode xnc_SC_isReader 1 = .ok (.iconst 0, 1) := by decide +kernel
theorem xnd_SC_isReader_2 : decode xnc_SC_isReader 2 = .ok (.iconst 2, 1) := by decide +kernel
theorem xnd_SC_isReader_3 : decode xnc_SC_isReader 3 = .ok (.invokestatic 18, 3) := by decide +kernel
theorem xnd_SC_isReader_6 : decode xnc_SC_isReader 6 = .ok (.ireturn, 1) := by decide +kernel
theorem xnd_RD_isUnderWay_0 : decode xnc_RD_isUnderWay 0 = .ok (.aload_n 0, 1) := by decide +kernel
theorem xnd_RD_isUnderWay_1 : decode xnc_RD_isUnderWay 1 = .ok (.getfield 23, 3) := by decide +kernel
theorem xnd_RD_isUnderWay_4 : decode xnc_RD_isUnderWay 4 = .ok (.iconst 1, 1) := by decide +kernel
theorem xnd_RD_isUnderWay_5 : decode xnc_RD_isUnderWay 5 = .ok (.bipush 6, 2) := by decide +kernel
theorem xnd_RD_isUnderWay_7 : decode xnc_RD_isUnderWay 7 = .ok (.invokestatic 27, 3) := by decide +kernel
theorem xnd_RD_isUnderWay_10 : decode xnc_RD_isUnderWay 10 = .ok (.ireturn, 1) := by decide +kernel
theorem xnd_RD_begin_0 : decode xnc_RD_begin 0 = .ok (.aload_n 0, 1) := by decide +kernel
theorem xnd_RD_begin_1 : decode xnc_RD_begin 1 = .ok (.iload_n 1, 1) := by decide +kernel
theorem xnd_RD_begin_2 : decode xnc_RD_begin 2 = .ok (.putfield 31, 3) := by decide +kernel
theorem xnd_RD_begin_5 : decode xnc_RD_begin 5 = .ok (.aload_n 0, 1) := by decide +kernel
theorem xnd_RD_begin_6 : decode xnc_RD_begin 6 = .ok (.iconst 0, 1) := by decide +kernel
theorem xnd_RD_begin_7 : decode xnc_RD_begin 7 = .ok (.putfield 34, 3) := by decide +kernel
theorem xnd_RD_begin_10 : decode xnc_RD_begin 10 = .ok (.aload_n 0, 1) := by decide +kernel
theorem xnd_RD_begin_11 : decode xnc_RD_begin 11 = .ok (.iconst 1, 1) := by decide +kernel
theorem xnd_RD_begin_12 : decode xnc_RD_begin 12 = .ok (.putfield 23, 3) := by decide +kernel
theorem xnd_RD_begin_15 : decode xnc_RD_begin 15 = .ok (.return_, 1) := by decide +kernel
theorem xnd_SC_step_0 : decode xnc_SC_step 0 = .ok (.iload_n 1, 1) := by decide +kernel
theorem xnd_SC_step_1 : decode xnc_SC_step 1 = .ok (.invokestatic 62, 3) := by decide +kernel
theorem xnd_SC_step_4 : decode xnc_SC_step 4 = .ok (.ifCond .eq 15, 3) := by decide +kernel
theorem xnd_SC_step_7 : decode xnc_SC_step 7 = .ok (.aload_n 0, 1) := by decide +kernel
theorem xnd_SC_step_8 : decode xnc_SC_step 8 = .ok (.getfield 40, 3) := by decide +kernel
theorem xnd_SC_step_11 : decode xnc_SC_step 11 = .ok (.iload_n 1, 1) := by decide +kernel
theorem xnd_SC_step_12 : decode xnc_SC_step 12 = .ok (.aaload, 1) := by decide +kernel
theorem xnd_SC_step_13 : decode xnc_SC_step 13 = .ok (.invokevirtual 66, 3) := by decide +kernel
theorem xnd_SC_step_16 : decode xnc_SC_step 16 = .ok (.ifCond .ne 5, 3) := by decide +kernel
theorem xnd_SC_step_19 : decode xnc_SC_step 19 = .ok (.iconst (-1), 1) := by decide +kernel
theorem xnd_SC_step_20 : decode xnc_SC_step 20 = .ok (.ireturn, 1) := by decide +kernel
theorem xnd_SC_step_21 : decode xnc_SC_step 21 = .ok (.aload_n 0, 1) := by decide +kernel
theorem xnd_SC_step_22 : decode xnc_SC_step 22 = .ok (.getfield 40, 3) := by decide +kernel
theorem xnd_SC_step_25 : decode xnc_SC_step 25 = .ok (.iload_n 1, 1) := by decide +kernel
theorem xnd_SC_step_26 : decode xnc_SC_step 26 = .ok (.aaload, 1) := by decide +kernel
theorem xnd_SC_step_27 : decode xnc_SC_step 27 = .ok (.invokevirtual 70, 3) := by decide +kernel
theorem xnd_SC_step_30 : decode xnc_SC_step 30 = .ok (.aload_n 0, 1) := by decide +kernel
theorem xnd_SC_step_31 : decode xnc_SC_step 31 = .ok (.getfield 40, 3) := by decide +kernel
theorem xnd_SC_step_34 : decode xnc_SC_step 34 = .ok (.iload_n 1, 1) := by decide +kernel
theorem xnd_SC_step_35 : decode xnc_SC_step 35 = .ok (.aaload, 1) := by decide +kernel
theorem xnd_SC_step_36 : decode xnc_SC_step 36 = .ok (.getfield 71, 3) := by decide +kernel
theorem xnd_SC_step_39 : decode xnc_SC_step 39 = .ok (.ireturn, 1) := by decide +kernel
theorem xnd_RD_goOn_0 : decode xnc_RD_goOn 0 = .ok (.aload_n 0, 1) := by decide +kernel
theorem xnd_RD_goOn_1 : decode xnc_RD_goOn 1 = .ok (.getfield 23, 3) := by decide +kernel
theorem xnd_RD_goOn_4 : decode xnc_RD_goOn 4 = .ok (.tableswitch 92 1 5 #[36, 43, 58, 73, 85], 36) := by decide +kernel
theorem xnd_RD_goOn_40 : decode xnc_RD_goOn 40 = .ok (.aload_n 0, 1) := by decide +kernel
theorem xnd_RD_goOn_41 : decode xnc_RD_goOn 41 = .ok (.invokevirtual 37, 3) := by decide +kernel
theorem xnd_RD_goOn_44 : decode xnc_RD_goOn 44 = .ok (.goto 56, 3) := by decide +kernel
theorem xnd_RD_goOn_47 : decode xnc_RD_goOn 47 = .ok (.aload_n 0, 1) := by decide +kernel
theorem xnd_RD_goOn_48 : decode xnc_RD_goOn 48 = .ok (.aload_n 0, 1) := by decide +kernel
theorem xnd_RD_goOn_49 : decode xnc_RD_goOn 49 = .ok (.getfield 31, 3) := by decide +kernel
theorem xnd_RD_goOn_52 : decode xnc_RD_goOn 52 = .ok (.invokestatic 40, 3) := by decide +kernel
theorem xnd_RD_goOn_55 : decode xnc_RD_goOn 55 = .ok (.iconst 3, 1) := by decide +kernel
theorem xnd_RD_goOn_56 : decode xnc_RD_goOn 56 = .ok (.invokevirtual 44, 3) := by decide +kernel
theorem xnd_RD_goOn_59 : decode xnc_RD_goOn 59 = .ok (.goto 41, 3) := by decide +kernel
theorem xnd_RD_goOn_62 : decode xnc_RD_goOn 62 = .ok (.aload_n 0, 1) := by decide +kernel
theorem xnd_RD_goOn_63 : decode xnc_RD_goOn 63 = .ok (.aload_n 0, 1) := by decide +kernel
theorem xnd_RD_goOn_64 : decode xnc_RD_goOn 64 = .ok (.getfield 31, 3) := by decide +kernel
theorem xnd_RD_goOn_67 : decode xnc_RD_goOn 67 = .ok (.invokestatic 48, 3) := by decide +kernel
theorem xnd_RD_goOn_70 : decode xnc_RD_goOn 70 = .ok (.iconst 5, 1) := by decide +kernel
theorem xnd_RD_goOn_71 : decode xnc_RD_goOn 71 = .ok (.invokevirtual 44, 3) := by decide +kernel
theorem xnd_RD_goOn_74 : decode xnc_RD_goOn 74 = .ok (.goto 26, 3) := by decide +kernel
theorem xnd_RD_goOn_77 : decode xnc_RD_goOn 77 = .ok (.aload_n 0, 1) := by decide +kernel
theorem xnd_RD_goOn_78 : decode xnc_RD_goOn 78 = .ok (.invokevirtual 51, 3) := by decide +kernel
theorem xnd_RD_goOn_81 : decode xnc_RD_goOn 81 = .ok (.aload_n 0, 1) := by decide +kernel
theorem xnd_RD_goOn_82 : decode xnc_RD_goOn 82 = .ok (.iconst 5, 1) := by decide +kernel
theorem xnd_RD_goOn_83 : decode xnc_RD_goOn 83 = .ok (.putfield 23, 3) := by decide +kernel
theorem xnd_RD_goOn_86 : decode xnc_RD_goOn 86 = .ok (.goto 14, 3) := by decide +kernel
theorem xnd_RD_goOn_89 : decode xnc_RD_goOn 89 = .ok (.aload_n 0, 1) := by decide +kernel
theorem xnd_RD_goOn_90 : decode xnc_RD_goOn 90 = .ok (.invokevirtual 54, 3) := by decide +kernel
theorem xnd_RD_goOn_93 : decode xnc_RD_goOn 93 = .ok (.goto 7, 3) := by decide +kernel
theorem xnd_RD_goOn_96 : decode xnc_RD_goOn 96 = .ok (.aload_n 0, 1) := by decide +kernel
theorem xnd_RD_goOn_97 : decode xnc_RD_goOn 97 = .ok (.invokevirtual 57, 3) := by decide +kernel
theorem xnd_RD_goOn_100 : decode xnc_RD_goOn 100 = .ok (.return_, 1) := by decide +kernel
theorem xnd_RD_keepVersion_0 : decode xnc_RD_keepVersion 0 = .ok (.aload_n 0, 1) := by decide +kernel
theorem xnd_RD_keepVersion_1 : decode xnc_RD_keepVersion 1 = .ok (.aload_n 0, 1) := by decide +kernel
theorem xnd_RD_keepVersion_2 : decode xnc_RD_keepVersion 2 = .ok (.getfield 9, 3) := by decide +kernel
theorem xnd_RD_keepVersion_5 : decode xnc_RD_keepVersion 5 = .ok (.aload_n 0, 1) := by decide +kernel
theorem xnd_RD_keepVersion_6 : decode xnc_RD_keepVersion 6 = .ok (.getfield 31, 3) := by decide +kernel
theorem xnd_RD_keepVersion_9 : decode xnc_RD_keepVersion 9 = .ok (.invokevirtual 60, 3) := by decide +kernel
theorem xnd_RD_keepVersion_12 : decode xnc_RD_keepVersion 12 = .ok (.putfield 65, 3) := by decide +kernel
theorem xnd_RD_keepVersion_15 : decode xnc_RD_keepVersion 15 = .ok (.aload_n 0, 1) := by decide +kernel
theorem xnd_RD_keepVersion_16 : decode xnc_RD_keepVersion 16 = .ok (.getfield 65, 3) := by decide +kernel
theorem xnd_RD_keepVersion_19 : decode xnc_RD_keepVersion 19 = .ok (.iconst 1, 1) := by decide +kernel
theorem xnd_RD_keepVersion_20 : decode xnc_RD_keepVersion 20 = .ok (.iand, 1) := by decide +kernel
theorem xnd_RD_keepVersion_21 : decode xnc_RD_keepVersion 21 = .ok (.ifCond .eq 19, 3) := by decide +kernel
theorem xnd_RD_keepVersion_24 : decode xnc_RD_keepVersion 24 = .ok (.aload_n 0, 1) := by decide +kernel
theorem xnd_RD_keepVersion_25 : decode xnc_RD_keepVersion 25 = .ok (.getfield 19, 3) := by decide +kernel
theorem xnd_RD_keepVersion_28 : decode xnc_RD_keepVersion 28 = .ok (.dup, 1) := by decide +kernel
theorem xnd_RD_keepVersion_29 : decode xnc_RD_keepVersion 29 = .ok (.getfield 68, 3) := by decide +kernel
theorem xnd_RD_keepVersion_32 : decode xnc_RD_keepVersion 32 = .ok (.iconst 1, 1) := by decide +kernel
theorem xnd_RD_keepVersion_33 : decode xnc_RD_keepVersion 33 = .ok (.iadd, 1) := by decide +kernel
theorem xnd_RD_keepVersion_34 : decode xnc_RD_keepVersion 34 = .ok (.putfield 68, 3) := by decide +kernel
theorem xnd_RD_keepVersion_37 : decode xnc_RD_keepVersion 37 = .ok (.goto 8, 3) := by decide +kernel
theorem xnd_RD_keepVersion_40 : decode xnc_RD_keepVersion 40 = .ok (.aload_n 0, 1) := by decide +kernel
theorem xnd_RD_keepVersion_41 : decode xnc_RD_keepVersion 41 = .ok (.iconst 2, 1) := by decide +kernel
theorem xnd_RD_keepVersion_42 : decode xnc_RD_keepVersion 42 = .ok (.putfield 23, 3) := by decide +kernel
theorem xnd_RD_keepVersion_45 : decode xnc_RD_keepVersion 45 = .ok (.return_, 1) := by decide +kernel
theorem xnd_ST_versionFor_0 : decode xnc_ST_versionFor 0 = .ok (.aload_n 0, 1) := by decide +kernel
theorem xnd_ST_versionFor_1 : decode xnc_ST_versionFor 1 = .ok (.getfield 51, 3) := by decide +kernel
theorem xnd_ST_versionFor_4 : decode xnc_ST_versionFor 4 = .ok (.iload_n 1, 1) := by decide +kernel
theorem xnd_ST_versionFor_5 : decode xnc_ST_versionFor 5 = .ok (.invokestatic 82, 3) := by decide +kernel
theorem xnd_ST_versionFor_8 : decode xnc_ST_versionFor 8 = .ok (.iaload, 1) := by decide +kernel
theorem xnd_ST_versionFor_9 : decode xnc_ST_versionFor 9 = .ok (.ireturn, 1) := by decide +kernel
theorem xnd_RD_lookInto_0 : decode xnc_RD_lookInto 0 = .ok (.aload_n 0, 1) := by decide +kernel
theorem xnd_RD_lookInto_1 : decode xnc_RD_lookInto 1 = .ok (.getfield 9, 3) := by decide +kernel
theorem xnd_RD_lookInto_4 : decode xnc_RD_lookInto 4 = .ok (.iload_n 1, 1) := by decide +kernel
theorem xnd_RD_lookInto_5 : decode xnc_RD_lookInto 5 = .ok (.aload_n 0, 1) := by decide +kernel
theorem xnd_RD_lookInto_6 : decode xnc_RD_lookInto 6 = .ok (.getfield 31, 3) := by decide +kernel
theorem xnd_RD_lookInto_9 : decode xnc_RD_lookInto 9 = .ok (.invokevirtual 73, 3) := by decide +kernel
theorem xnd_RD_lookInto_12 : decode xnc_RD_lookInto 12 = .ok (.istore_n 3, 1) := by decide +kernel
theorem xnd_RD_lookInto_13 : decode xnc_RD_lookInto 13 = .ok (.aload_n 0, 1) := by decide +kernel
theorem xnd_RD_lookInto_14 : decode xnc_RD_lookInto 14 = .ok (.iload_n 3, 1) := by decide +kernel
theorem xnd_RD_lookInto_15 : decode xnc_RD_lookInto 15 = .ok (.iconst (-1), 1) := by decide +kernel
theorem xnd_RD_lookInto_16 : decode xnc_RD_lookInto 16 = .ok (.if_icmp .eq 15, 3) := by decide +kernel
theorem xnd_RD_lookInto_19 : decode xnc_RD_lookInto 19 = .ok (.aload_n 0, 1) := by decide +kernel
theorem xnd_RD_lookInto_20 : decode xnc_RD_lookInto 20 = .ok (.getfield 9, 3) := by decide +kernel
theorem xnd_RD_lookInto_23 : decode xnc_RD_lookInto 23 = .ok (.getfield 77, 3) := by decide +kernel
theorem xnd_RD_lookInto_26 : decode xnc_RD_lookInto 26 = .ok (.iload_n 3, 1) := by decide +kernel
theorem xnd_RD_lookInto_27 : decode xnc_RD_lookInto 27 = .ok (.iaload, 1) := by decide +kernel
theorem xnd_RD_lookInto_28 : decode xnc_RD_lookInto 28 = .ok (.goto 4, 3) := by decide +kernel
theorem xnd_RD_lookInto_31 : decode xnc_RD_lookInto 31 = .ok (.iconst (-1), 1) := by decide +kernel
theorem xnd_RD_lookInto_32 : decode xnc_RD_lookInto 32 = .ok (.putfield 81, 3) := by decide +kernel
theorem xnd_RD_lookInto_35 : decode xnc_RD_lookInto 35 = .ok (.aload_n 0, 1) := by decide +kernel
theorem xnd_RD_lookInto_36 : decode xnc_RD_lookInto 36 = .ok (.iload_n 3, 1) := by decide +kernel
theorem xnd_RD_lookInto_37 : decode xnc_RD_lookInto 37 = .ok (.iconst (-1), 1) := by decide +kernel
theorem xnd_RD_lookInto_38 : decode xnc_RD_lookInto 38 = .ok (.if_icmp .eq 7, 3) := by decide +kernel
theorem xnd_RD_lookInto_41 : decode xnc_RD_lookInto 41 = .ok (.iconst 4, 1) := by decide +kernel
theorem xnd_RD_lookInto_42 : decode xnc_RD_lookInto 42 = .ok (.goto 4, 3) := by decide +kernel
theorem xnd_RD_lookInto_45 : decode xnc_RD_lookInto 45 = .ok (.iload_n 2, 1) := by decide +kernel
theorem xnd_RD_lookInto_46 : decode xnc_RD_lookInto 46 = .ok (.putfield 23, 3) := by decide +kernel
theorem xnd_RD_lookInto_49 : decode xnc_RD_lookInto 49 = .ok (.return_, 1) := by decide +kernel
theorem xnd_RD_copyItem_0 : decode xnc_RD_copyItem 0 = .ok (.aload_n 0, 1) := by decide +kernel
theorem xnd_RD_copyItem_1 : decode xnc_RD_copyItem 1 = .ok (.aload_n 0, 1) := by decide +kernel
theorem xnd_RD_copyItem_2 : decode xnc_RD_copyItem 2 = .ok (.getfield 9, 3) := by decide +kernel
theorem xnd_RD_copyItem_5 : decode xnc_RD_copyItem 5 = .ok (.getfield 84, 3) := by decide +kernel
theorem xnd_RD_copyItem_8 : decode xnc_RD_copyItem 8 = .ok (.aload_n 0, 1) := by decide +kernel
theorem xnd_RD_copyItem_9 : decode xnc_RD_copyItem 9 = .ok (.getfield 81, 3) := by decide +kernel
theorem xnd_RD_copyItem_12 : decode xnc_RD_copyItem 12 = .ok (.iaload, 1) := by decide +kernel
theorem xnd_RD_copyItem_13 : decode xnc_RD_copyItem 13 = .ok (.putfield 87, 3) := by decide +kernel
theorem xnd_RD_copyItem_16 : decode xnc_RD_copyItem 16 = .ok (.aload_n 0, 1) := by decide +kernel
theorem xnd_RD_copyItem_17 : decode xnc_RD_copyItem 17 = .ok (.aload_n 0, 1) := by decide +kernel
theorem xnd_RD_copyItem_18 : decode xnc_RD_copyItem 18 = .ok (.getfield 9, 3) := by decide +kernel
theorem xnd_RD_copyItem_21 : decode xnc_RD_copyItem 21 = .ok (.getfield 90, 3) := by decide +kernel
theorem xnd_RD_copyItem_24 : decode xnc_RD_copyItem 24 = .ok (.aload_n 0, 1) := by decide +kernel
theorem xnd_RD_copyItem_25 : decode xnc_RD_copyItem 25 = .ok (.getfield 81, 3) := by decide +kernel
theorem xnd_RD_copyItem_28 : decode xnc_RD_copyItem 28 = .ok (.iaload, 1) := by decide +kernel
theorem xnd_RD_copyItem_29 : decode xnc_RD_copyItem 29 = .ok (.putfield 93, 3) := by decide +kernel
theorem xnd_RD_copyItem_32 : decode xnc_RD_copyItem 32 = .ok (.aload_n 0, 1) := by decide +kernel
theorem xnd_RD_copyItem_33 : decode xnc_RD_copyItem 33 = .ok (.aload_n 0, 1) := by decide +kernel
theorem xnd_RD_copyItem_34 : decode xnc_RD_copyItem 34 = .ok (.getfield 9, 3) := by decide +kernel
theorem xnd_RD_copyItem_37 : decode xnc_RD_copyItem 37 = .ok (.getfield 96, 3) := by decide +kernel
theorem xnd_RD_copyItem_40 : decode xnc_RD_copyItem 40 = .ok (.aload_n 0, 1) := by decide +kernel
theorem xnd_RD_copyItem_41 : decode xnc_RD_copyItem 41 = .ok (.getfield 81, 3) := by decide +kernel
theorem xnd_RD_copyItem_44 : decode xnc_RD_copyItem 44 = .ok (.iaload, 1) := by decide +kernel
theorem xnd_RD_copyItem_45 : decode xnc_RD_copyItem 45 = .ok (.putfield 99, 3) := by decide +kernel
theorem xnd_RD_copyItem_48 : decode xnc_RD_copyItem 48 = .ok (.return_, 1) := by decide +kernel
theorem xnd_RD_checkVersion_0 : decode xnc_RD_checkVersion 0 = .ok (.aload_n 0, 1) := by decide +kernel
theorem xnd_RD_checkVersion_1 : decode xnc_RD_checkVersion 1 = .ok (.getfield 9, 3) := by decide +kernel
theorem xnd_RD_checkVersion_4 : decode xnc_RD_checkVersion 4 = .ok (.aload_n 0, 1) := by decide +kernel
theorem xnd_RD_checkVersion_5 : decode xnc_RD_checkVersion 5 = .ok (.getfield 31, 3) := by decide +kernel
theorem xnd_RD_checkVersion_8 : decode xnc_RD_checkVersion 8 = .ok (.invokevirtual 60, 3) := by decide +kernel
theorem xnd_RD_checkVersion_11 : decode xnc_RD_checkVersion 11 = .ok (.aload_n 0, 1) := by decide +kernel
theorem xnd_RD_checkVersion_12 : decode xnc_RD_checkVersion 12 = .ok (.getfield 65, 3) := by decide +kernel
theorem xnd_RD_checkVersion_15 : decode xnc_RD_checkVersion 15 = .ok (.if_icmp .eq 47, 3) := by decide +kernel
theorem xnd_RD_checkVersion_18 : decode xnc_RD_checkVersion 18 = .ok (.aload_n 0, 1) := by decide +kernel
theorem xnd_RD_checkVersion_19 : decode xnc_RD_checkVersion 19 = .ok (.dup, 1) := by decide +kernel
theorem xnd_RD_checkVersion_20 : decode xnc_RD_checkVersion 20 = .ok (.getfield 34, 3) := by decide +kernel
theorem xnd_RD_checkVersion_23 : decode xnc_RD_checkVersion 23 = .ok (.iconst 1, 1) := by decide +kernel
theorem xnd_RD_checkVersion_24 : decode xnc_RD_checkVersion 24 = .ok (.iadd, 1) := by decide +kernel
theorem xnd_RD_checkVersion_25 : decode xnc_RD_checkVersion 25 = .ok (.putfield 34, 3) := by decide +kernel
theorem xnd_RD_checkVersion_28 : decode xnc_RD_checkVersion 28 = .ok (.aload_n 0, 1) := by decide +kernel
theorem xnd_RD_checkVersion_29 : decode xnc_RD_checkVersion 29 = .ok (.getfield 19, 3) := by decide +kernel
theorem xnd_RD_checkVersion_32 : decode xnc_RD_checkVersion 32 = .ok (.dup, 1) := by decide +kernel
theorem xnd_RD_checkVersion_33 : decode xnc_RD_checkVersion 33 = .ok (.getfield 102, 3) := by decide +kernel
theorem xnd_RD_checkVersion_36 : decode xnc_RD_checkVersion 36 = .ok (.iconst 1, 1) := by decide +kernel
theorem xnd_RD_checkVersion_37 : decode xnc_RD_checkVersion 37 = .ok (.iadd, 1) := by decide +kernel
theorem xnd_RD_checkVersion_38 : decode xnc_RD_checkVersion 38 = .ok (.putfield 102, 3) := by decide +kernel
theorem xnd_RD_checkVersion_41 : decode xnc_RD_checkVersion 41 = .ok (.aload_n 0, 1) := by decide +kernel
theorem xnd_RD_checkVersion_42 : decode xnc_RD_checkVersion 42 = .ok (.aload_n 0, 1) := by decide +kernel
theorem xnd_RD_checkVersion_43 : decode xnc_RD_checkVersion 43 = .ok (.getfield 34, 3) := by decide +kernel
theorem xnd_RD_checkVersion_46 : decode xnc_RD_checkVersion 46 = .ok (.iconst 3, 1) := by decide +kernel
theorem xnd_RD_checkVersion_47 : decode xnc_RD_checkVersion 47 = .ok (.if_icmp .lt 8, 3) := by decide +kernel
theorem xnd_RD_checkVersion_50 : decode xnc_RD_checkVersion 50 = .ok (.bipush 6, 2) := by decide +kernel
theorem xnd_RD_checkVersion_52 : decode xnc_RD_checkVersion 52 = .ok (.goto 4, 3) := by decide +kernel
theorem xnd_RD_checkVersion_55 : decode xnc_RD_checkVersion 55 = .ok (.iconst 1, 1) := by decide +kernel
theorem xnd_RD_checkVersion_56 : decode xnc_RD_checkVersion 56 = .ok (.putfield 23, 3) := by decide +kernel
theorem xnd_RD_checkVersion_59 : decode xnc_RD_checkVersion 59 = .ok (.goto 34, 3) := by decide +kernel
theorem xnd_RD_checkVersion_62 : decode xnc_RD_checkVersion 62 = .ok (.aload_n 0, 1) := by decide +kernel
theorem xnd_RD_checkVersion_63 : decode xnc_RD_checkVersion 63 = .ok (.aload_n 0, 1) := by decide +kernel
theorem xnd_RD_checkVersion_64 : decode xnc_RD_checkVersion 64 = .ok (.getfield 81, 3) := by decide +kernel
theorem xnd_RD_checkVersion_67 : decode xnc_RD_checkVersion 67 = .ok (.iconst (-1), 1) := by decide +kernel
theorem xnd_RD_checkVersion_68 : decode xnc_RD_checkVersion 68 = .ok (.if_icmp .eq 21, 3) := by decide +kernel
theorem xnd_RD_checkVersion_71 : decode xnc_RD_checkVersion 71 = .ok (.aload_n 0, 1) := by decide +kernel
theorem xnd_RD_checkVersion_72 : decode xnc_RD_checkVersion 72 = .ok (.getfield 9, 3) := by decide +kernel
theorem xnd_RD_checkVersion_75 : decode xnc_RD_checkVersion 75 = .ok (.aload_n 0, 1) := by decide +kernel
theorem xnd_RD_checkVersion_76 : decode xnc_RD_checkVersion 76 = .ok (.getfield 99, 3) := by decide +kernel
theorem xnd_RD_checkVersion_79 : decode xnc_RD_checkVersion 79 = .ok (.invokevirtual 103, 3) := by decide +kernel
theorem xnd_RD_checkVersion_82 : decode xnc_RD_checkVersion 82 = .ok (.ifCond .ne 7, 3) := by decide +kernel
theorem xnd_RD_checkVersion_85 : decode xnc_RD_checkVersion 85 = .ok (.iconst 1, 1) := by decide +kernel
theorem xnd_RD_checkVersion_86 : decode xnc_RD_checkVersion 86 = .ok (.goto 4, 3) := by decide +kernel
theorem xnd_RD_checkVersion_89 : decode xnc_RD_checkVersion 89 = .ok (.iconst 0, 1) := by decide +kernel
theorem xnd_RD_checkVersion_90 : decode xnc_RD_checkVersion 90 = .ok (.invokevirtual 107, 3) := by decide +kernel
theorem xnd_RD_checkVersion_93 : decode xnc_RD_checkVersion 93 = .ok (.return_, 1) := by decide +kernel
theorem xnd_RD_end_0 : decode xnc_RD_end 0 = .ok (.iload_n 1, 1) := by decide +kernel
theorem xnd_RD_end_1 : decode xnc_RD_end 1 = .ok (.ifCond .eq 16, 3) := by decide +kernel
theorem xnd_RD_end_4 : decode xnc_RD_end 4 = .ok (.aload_n 0, 1) := by decide +kernel
theorem xnd_RD_end_5 : decode xnc_RD_end 5 = .ok (.getfield 9, 3) := by decide +kernel
theorem xnd_RD_end_8 : decode xnc_RD_end 8 = .ok (.getfield 120, 3) := by decide +kernel
theorem xnd_RD_end_11 : decode xnc_RD_end 11 = .ok (.aload_n 0, 1) := by decide +kernel
theorem xnd_RD_end_12 : decode xnc_RD_end 12 = .ok (.getfield 81, 3) := by decide +kernel
theorem xnd_RD_end_15 : decode xnc_RD_end 15 = .ok (.iconst 1, 1) := by decide +kernel
theorem xnd_RD_end_16 : decode xnc_RD_end 16 = .ok (.bastore, 1) := by decide +kernel
theorem xnd_RD_end_17 : decode xnc_RD_end 17 = .ok (.aload_n 0, 1) := by decide +kernel
theorem xnd_RD_end_18 : decode xnc_RD_end 18 = .ok (.iload_n 1, 1) := by decide +kernel
theorem xnd_RD_end_19 : decode xnc_RD_end 19 = .ok (.ifCond .eq 8, 3) := by decide +kernel
theorem xnd_RD_end_22 : decode xnc_RD_end 22 = .ok (.bipush 7, 2) := by decide +kernel
theorem xnd_RD_end_24 : decode xnc_RD_end 24 = .ok (.goto 5, 3) := by decide +kernel
theorem xnd_RD_end_27 : decode xnc_RD_end 27 = .ok (.bipush 8, 2) := by decide +kernel
theorem xnd_RD_end_29 : decode xnc_RD_end 29 = .ok (.putfield 23, 3) := by decide +kernel
theorem xnd_RD_end_32 : decode xnc_RD_end 32 = .ok (.return_, 1) := by decide +kernel
theorem xnd_RD_readLocked_0 : decode xnc_RD_readLocked 0 = .ok (.aload_n 0, 1) := by decide +kernel
theorem xnd_RD_readLocked_1 : decode xnc_RD_readLocked 1 = .ok (.getfield 15, 3) := by decide +kernel
theorem xnd_RD_readLocked_4 : decode xnc_RD_readLocked 4 = .ok (.invokevirtual 111, 3) := by decide +kernel
theorem xnd_RD_readLocked_7 : decode xnc_RD_readLocked 7 = .ok (.ifCond .eq 17, 3) := by decide +kernel
theorem xnd_RD_readLocked_10 : decode xnc_RD_readLocked 10 = .ok (.aload_n 0, 1) := by decide +kernel
theorem xnd_RD_readLocked_11 : decode xnc_RD_readLocked 11 = .ok (.getfield 19, 3) := by decide +kernel
theorem xnd_RD_readLocked_14 : decode xnc_RD_readLocked 14 = .ok (.dup, 1) := by decide +kernel
theorem xnd_RD_readLocked_15 : decode xnc_RD_readLocked 15 = .ok (.getfield 68, 3) := by decide +kernel
theorem xnd_RD_readLocked_18 : decode xnc_RD_readLocked 18 = .ok (.iconst 1, 1) := by decide +kernel
theorem xnd_RD_readLocked_19 : decode xnc_RD_readLocked 19 = .ok (.iadd, 1) := by decide +kernel
theorem xnd_RD_readLocked_20 : decode xnc_RD_readLocked 20 = .ok (.putfield 68, 3) := by decide +kernel
theorem xnd_RD_readLocked_23 : decode xnc_RD_readLocked 23 = .ok (.return_, 1) := by decide +kernel
theorem xnd_RD_readLocked_24 : decode xnc_RD_readLocked 24 = .ok (.aload_n 0, 1) := by decide +kernel
theorem xnd_RD_readLocked_25 : decode xnc_RD_readLocked 25 = .ok (.getfield 9, 3) := by decide +kernel
theorem xnd_RD_readLocked_28 : decode xnc_RD_readLocked 28 = .ok (.aload_n 0, 1) := by decide +kernel
theorem xnd_RD_readLocked_29 : decode xnc_RD_readLocked 29 = .ok (.getfield 31, 3) := by decide +kernel
theorem xnd_RD_readLocked_32 : decode xnc_RD_readLocked 32 = .ok (.invokevirtual 117, 3) := by decide +kernel
theorem xnd_RD_readLocked_35 : decode xnc_RD_readLocked 35 = .ok (.istore_n 1, 1) := by decide +kernel
theorem xnd_RD_readLocked_36 : decode xnc_RD_readLocked 36 = .ok (.aload_n 0, 1) := by decide +kernel
theorem xnd_RD_readLocked_37 : decode xnc_RD_readLocked 37 = .ok (.iload_n 1, 1) := by decide +kernel
theorem xnd_RD_readLocked_38 : decode xnc_RD_readLocked 38 = .ok (.iconst (-1), 1) := by decide +kernel
theorem xnd_RD_readLocked_39 : decode xnc_RD_readLocked 39 = .ok (.if_icmp .eq 15, 3) := by decide +kernel
theorem xnd_RD_readLocked_42 : decode xnc_RD_readLocked 42 = .ok (.aload_n 0, 1) := by decide +kernel
theorem xnd_RD_readLocked_43 : decode xnc_RD_readLocked 43 = .ok (.getfield 9, 3) := by decide +kernel
theorem xnd_RD_readLocked_46 : decode xnc_RD_readLocked 46 = .ok (.getfield 77, 3) := by decide +kernel
theorem xnd_RD_readLocked_49 : decode xnc_RD_readLocked 49 = .ok (.iload_n 1, 1) := by decide +kernel
theorem xnd_RD_readLocked_50 : decode xnc_RD_readLocked 50 = .ok (.iaload, 1) := by decide +kernel
theorem xnd_RD_readLocked_51 : decode xnc_RD_readLocked 51 = .ok (.goto 4, 3) := by decide +kernel
theorem xnd_RD_readLocked_54 : decode xnc_RD_readLocked 54 = .ok (.iconst (-1), 1) := by decide +kernel
theorem xnd_RD_readLocked_55 : decode xnc_RD_readLocked 55 = .ok (.putfield 81, 3) := by decide +kernel
theorem xnd_RD_readLocked_58 : decode xnc_RD_readLocked 58 = .ok (.aload_n 0, 1) := by decide +kernel
theorem xnd_RD_readLocked_59 : decode xnc_RD_readLocked 59 = .ok (.getfield 81, 3) := by decide +kernel
theorem xnd_RD_readLocked_62 : decode xnc_RD_readLocked 62 = .ok (.iconst (-1), 1) := by decide +kernel
theorem xnd_RD_readLocked_63 : decode xnc_RD_readLocked 63 = .ok (.if_icmp .eq 7, 3) := by decide +kernel
theorem xnd_RD_readLocked_66 : decode xnc_RD_readLocked 66 = .ok (.aload_n 0, 1) := by decide +kernel
theorem xnd_RD_readLocked_67 : decode xnc_RD_readLocked 67 = .ok (.invokevirtual 51, 3) := by decide +kernel
theorem xnd_RD_readLocked_70 : decode xnc_RD_readLocked 70 = .ok (.aload_n 0, 1) := by decide +kernel
theorem xnd_RD_readLocked_71 : decode xnc_RD_readLocked 71 = .ok (.aload_n 0, 1) := by decide +kernel
theorem xnd_RD_readLocked_72 : decode xnc_RD_readLocked 72 = .ok (.getfield 81, 3) := by decide +kernel
theorem xnd_RD_readLocked_75 : decode xnc_RD_readLocked 75 = .ok (.iconst (-1), 1) := by decide +kernel
theorem xnd_RD_readLocked_76 : decode xnc_RD_readLocked 76 = .ok (.if_icmp .eq 21, 3) := by decide +kernel
theorem xnd_RD_readLocked_79 : decode xnc_RD_readLocked 79 = .ok (.aload_n 0, 1) := by decide +kernel
theorem xnd_RD_readLocked_80 : decode xnc_RD_readLocked 80 = .ok (.getfield 9, 3) := by decide +kernel
theorem xnd_RD_readLocked_83 : decode xnc_RD_readLocked 83 = .ok (.aload_n 0, 1) := by decide +kernel
theorem xnd_RD_readLocked_84 : decode xnc_RD_readLocked 84 = .ok (.getfield 99, 3) := by decide +kernel
theorem xnd_RD_readLocked_87 : decode xnc_RD_readLocked 87 = .ok (.invokevirtual 103, 3) := by decide +kernel
theorem xnd_RD_readLocked_90 : decode xnc_RD_readLocked 90 = .ok (.ifCond .ne 7, 3) := by decide +kernel
theorem xnd_RD_readLocked_93 : decode xnc_RD_readLocked 93 = .ok (.iconst 1, 1) := by decide +kernel
theorem xnd_RD_readLocked_94 : decode xnc_RD_readLocked 94 = .ok (.goto 4, 3) := by decide +kernel
theorem xnd_RD_readLocked_97 : decode xnc_RD_readLocked 97 = .ok (.iconst 0, 1) := by decide +kernel
theorem xnd_RD_readLocked_98 : decode xnc_RD_readLocked 98 = .ok (.invokevirtual 107, 3) := by decide +kernel
theorem xnd_RD_readLocked_101 : decode xnc_RD_readLocked 101 = .ok (.return_, 1) := by decide +kernel
theorem xnd_SC_state_0 : decode xnc_SC_state 0 = .ok (.iload_n 1, 1) := by decide +kernel
theorem xnd_SC_state_1 : decode xnc_SC_state 1 = .ok (.invokestatic 62, 3) := by decide +kernel
theorem xnd_SC_state_4 : decode xnc_SC_state 4 = .ok (.ifCond .eq 15, 3) := by decide +kernel
theorem xnd_SC_state_7 : decode xnc_SC_state 7 = .ok (.aload_n 0, 1) := by decide +kernel
theorem xnd_SC_state_8 : decode xnc_SC_state 8 = .ok (.getfield 40, 3) := by decide +kernel
theorem xnd_SC_state_11 : decode xnc_SC_state 11 = .ok (.iload_n 1, 1) := by decide +kernel
theorem xnd_SC_state_12 : decode xnc_SC_state 12 = .ok (.aaload, 1) := by decide +kernel
theorem xnd_SC_state_13 : decode xnc_SC_state 13 = .ok (.getfield 71, 3) := by decide +kernel
theorem xnd_SC_state_16 : decode xnc_SC_state 16 = .ok (.goto 4, 3) := by decide +kernel
theorem xnd_SC_state_19 : decode xnc_SC_state 19 = .ok (.iconst (-1), 1) := by decide +kernel
theorem xnd_SC_state_20 : decode xnc_SC_state 20 = .ok (.ireturn, 1) := by decide +kernel
theorem xnd_SC_value_0 : decode xnc_SC_value 0 = .ok (.aload_n 0, 1) := by decide +kernel
theorem xnd_SC_value_1 : decode xnc_SC_value 1 = .ok (.iload_n 1, 1) := by decide +kernel
theorem xnd_SC_value_2 : decode xnc_SC_value 2 = .ok (.invokevirtual 74, 3) := by decide +kernel
theorem xnd_SC_value_5 : decode xnc_SC_value 5 = .ok (.ifCond .eq 15, 3) := by decide +kernel
theorem xnd_SC_value_8 : decode xnc_SC_value 8 = .ok (.aload_n 0, 1) := by decide +kernel
theorem xnd_SC_value_9 : decode xnc_SC_value 9 = .ok (.getfield 40, 3) := by decide +kernel
theorem xnd_SC_value_12 : decode xnc_SC_value 12 = .ok (.iload_n 1, 1) := by decide +kernel
theorem xnd_SC_value_13 : decode xnc_SC_value 13 = .ok (.aaload, 1) := by decide +kernel
theorem xnd_SC_value_14 : decode xnc_SC_value 14 = .ok (.getfield 77, 3) := by decide +kernel
theorem xnd_SC_value_17 : decode xnc_SC_value 17 = .ok (.goto 4, 3) := by decide +kernel
theorem xnd_SC_value_20 : decode xnc_SC_value 20 = .ok (.iconst 0, 1) := by decide +kernel
theorem xnd_SC_value_21 : decode xnc_SC_value 21 = .ok (.ireturn, 1) := by decide +kernel
theorem xnd_SC_isHit_0 : decode xnc_SC_isHit 0 = .ok (.iload_n 1, 1) := by decide +kernel
theorem xnd_SC_isHit_1 : decode xnc_SC_isHit 1 = .ok (.invokestatic 62, 3) := by decide +kernel
theorem xnd_SC_isHit_4 : decode xnc_SC_isHit 4 = .ok (.ifCond .eq 21, 3) := by decide +kernel
theorem xnd_SC_isHit_7 : decode xnc_SC_isHit 7 = .ok (.aload_n 0, 1) := by decide +kernel
theorem xnd_SC_isHit_8 : decode xnc_SC_isHit 8 = .ok (.getfield 40, 3) := by decide +kernel
theorem xnd_SC_isHit_11 : decode xnc_SC_isHit 11 = .ok (.iload_n 1, 1) := by decide +kernel
theorem xnd_SC_isHit_12 : decode xnc_SC_isHit 12 = .ok (.aaload, 1) := by decide +kernel
theorem xnd_SC_isHit_13 : decode xnc_SC_isHit 13 = .ok (.getfield 71, 3) := by decide +kernel
theorem xnd_SC_isHit_16 : decode xnc_SC_isHit 16 = .ok (.bipush 7, 2) := by decide +kernel
theorem xnd_SC_isHit_18 : decode xnc_SC_isHit 18 = .ok (.if_icmp .ne 7, 3) := by decide +kernel
theorem xnd_SC_isHit_21 : decode xnc_SC_isHit 21 = .ok (.iconst 1, 1) := by decide +kernel
theorem xnd_SC_isHit_22 : decode xnc_SC_isHit 22 = .ok (.goto 4, 3) := by decide +kernel
theorem xnd_SC_isHit_25 : decode xnc_SC_isHit 25 = .ok (.iconst 0, 1) := by decide +kernel
theorem xnd_SC_isHit_26 : decode xnc_SC_isHit 26 = .ok (.ireturn, 1) := by decide +kernel
theorem xnd_SC_token_0 : decode xnc_SC_token 0 = .ok (.aload_n 0, 1) := by decide +kernel
theorem xnd_SC_token_1 : decode xnc_SC_token 1 = .ok (.iload_n 1, 1) := by decide +kernel
theorem xnd_SC_token_2 : decode xnc_SC_token 2 = .ok (.invokevirtual 74, 3) := by decide +kernel
theorem xnd_SC_token_5 : decode xnc_SC_token 5 = .ok (.ifCond .eq 15, 3) := by decide +kernel
theorem xnd_SC_token_8 : decode xnc_SC_token 8 = .ok (.aload_n 0, 1) := by decide +kernel
theorem xnd_SC_token_9 : decode xnc_SC_token 9 = .ok (.getfield 40, 3) := by decide +kernel
theorem xnd_SC_token_12 : decode xnc_SC_token 12 = .ok (.iload_n 1, 1) := by decide +kernel
theorem xnd_SC_token_13 : decode xnc_SC_token 13 = .ok (.aaload, 1) := by decide +kernel
theorem xnd_SC_token_14 : decode xnc_SC_token 14 = .ok (.getfield 80, 3) := by decide +kernel
theorem xnd_SC_token_17 : decode xnc_SC_token 17 = .ok (.goto 4, 3) := by decide +kernel
theorem xnd_SC_token_20 : decode xnc_SC_token 20 = .ok (.iconst 0, 1) := by decide +kernel
theorem xnd_SC_token_21 : decode xnc_SC_token 21 = .ok (.ireturn, 1) := by decide +kernel
theorem xnd_SC_pass_0 : decode xnc_SC_pass 0 = .ok (.iload_n 1, 1) := by decide +kernel
theorem xnd_SC_pass_1 : decode xnc_SC_pass 1 = .ok (.iconst 1, 1) := by decide +kernel
theorem xnd_SC_pass_2 : decode xnc_SC_pass 2 = .ok (.sipush 1000, 3) := by decide +kernel
theorem xnd_SC_pass_5 : decode xnc_SC_pass 5 = .ok (.invokestatic 18, 3) := by decide +kernel
theorem xnd_SC_pass_8 : decode xnc_SC_pass 8 = .ok (.ifCond .ne 5, 3) := by decide +kernel
theorem xnd_SC_pass_11 : decode xnc_SC_pass 11 = .ok (.iconst 0, 1) := by decide +kernel
theorem xnd_SC_pass_12 : decode xnc_SC_pass 12 = .ok (.ireturn, 1) := by decide +kernel
theorem xnd_SC_pass_13 : decode xnc_SC_pass 13 = .ok (.aload_n 0, 1) := by decide +kernel
theorem xnd_SC_pass_14 : decode xnc_SC_pass 14 = .ok (.getfield 25, 3) := by decide +kernel
theorem xnd_SC_pass_17 : decode xnc_SC_pass 17 = .ok (.dup, 1) := by decide +kernel
theorem xnd_SC_pass_18 : decode xnc_SC_pass 18 = .ok (.getfield 83, 3) := by decide +kernel
theorem xnd_SC_pass_21 : decode xnc_SC_pass 21 = .ok (.iload_n 1, 1) := by decide +kernel
theorem xnd_SC_pass_22 : decode xnc_SC_pass 22 = .ok (.iadd, 1) := by decide +kernel
theorem xnd_SC_pass_23 : decode xnc_SC_pass 23 = .ok (.putfield 83, 3) := by decide +kernel
theorem xnd_SC_pass_26 : decode xnc_SC_pass 26 = .ok (.iconst 1, 1) := by decide +kernel
theorem xnd_SC_pass_27 : decode xnc_SC_pass 27 = .ok (.ireturn, 1) := by decide +kernel
theorem xnd_SC_where_0 : decode xnc_SC_where 0 = .ok (.aload_n 0, 1) := by decide +kernel
theorem xnd_SC_where_1 : decode xnc_SC_where 1 = .ok (.getfield 25, 3) := by decide +kernel
theorem xnd_SC_where_4 : decode xnc_SC_where 4 = .ok (.iload_n 1, 1) := by decide +kernel
theorem xnd_SC_where_5 : decode xnc_SC_where 5 = .ok (.invokevirtual 86, 3) := by decide +kernel
theorem xnd_SC_where_8 : decode xnc_SC_where 8 = .ok (.ireturn, 1) := by decide +kernel
theorem xnd_ST_find_0 : decode xnc_ST_find 0 = .ok (.aload_n 0, 1) := by decide +kernel
theorem xnd_ST_find_1 : decode xnc_ST_find 1 = .ok (.iload_n 1, 1) := by decide +kernel
theorem xnd_ST_find_2 : decode xnc_ST_find 2 = .ok (.invokestatic 60, 3) := by decide +kernel
theorem xnd_ST_find_5 : decode xnc_ST_find 5 = .ok (.iload_n 1, 1) := by decide +kernel
theorem xnd_ST_find_6 : decode xnc_ST_find 6 = .ok (.invokevirtual 64, 3) := by decide +kernel
theorem xnd_ST_find_9 : decode xnc_ST_find 9 = .ok (.istore_n 2, 1) := by decide +kernel
theorem xnd_ST_find_10 : decode xnc_ST_find 10 = .ok (.iload_n 2, 1) := by decide +kernel
theorem xnd_ST_find_11 : decode xnc_ST_find 11 = .ok (.iconst (-1), 1) := by decide +kernel
theorem xnd_ST_find_12 : decode xnc_ST_find 12 = .ok (.if_icmp .eq 7, 3) := by decide +kernel
theorem xnd_ST_find_15 : decode xnc_ST_find 15 = .ok (.iload_n 2, 1) := by decide +kernel
theorem xnd_ST_find_16 : decode xnc_ST_find 16 = .ok (.goto 12, 3) := by decide +kernel
theorem xnd_ST_find_19 : decode xnc_ST_find 19 = .ok (.aload_n 0, 1) := by decide +kernel
theorem xnd_ST_find_20 : decode xnc_ST_find 20 = .ok (.iload_n 1, 1) := by decide +kernel
theorem xnd_ST_find_21 : decode xnc_ST_find 21 = .ok (.invokestatic 68, 3) := by decide +kernel
theorem xnd_ST_find_24 : decode xnc_ST_find 24 = .ok (.iload_n 1, 1) := by decide +kernel
theorem xnd_ST_find_25 : decode xnc_ST_find 25 = .ok (.invokevirtual 64, 3) := by decide +kernel
theorem xnd_ST_find_28 : decode xnc_ST_find 28 = .ok (.ireturn, 1) := by decide +kernel
theorem xnd_SC_at_0 : decode xnc_SC_at 0 = .ok (.iload_n 1, 1) := by decide +kernel
theorem xnd_SC_at_1 : decode xnc_SC_at 1 = .ok (.iconst 0, 1) := by decide +kernel
theorem xnd_SC_at_2 : decode xnc_SC_at 2 = .ok (.aload_n 0, 1) := by decide +kernel
theorem xnd_SC_at_3 : decode xnc_SC_at 3 = .ok (.getfield 25, 3) := by decide +kernel
theorem xnd_SC_at_6 : decode xnc_SC_at 6 = .ok (.getfield 90, 3) := by decide +kernel
theorem xnd_SC_at_9 : decode xnc_SC_at 9 = .ok (.arraylength, 1) := by decide +kernel
theorem xnd_SC_at_10 : decode xnc_SC_at 10 = .ok (.iconst 1, 1) := by decide +kernel
theorem xnd_SC_at_11 : decode xnc_SC_at 11 = .ok (.isub, 1) := by decide +kernel
theorem xnd_SC_at_12 : decode xnc_SC_at 12 = .ok (.invokestatic 18, 3) := by decide +kernel
theorem xnd_SC_at_15 : decode xnc_SC_at 15 = .ok (.ifCond .eq 15, 3) := by decide +kernel
theorem xnd_SC_at_18 : decode xnc_SC_at 18 = .ok (.aload_n 0, 1) := by decide +kernel
theorem xnd_SC_at_19 : decode xnc_SC_at 19 = .ok (.getfield 25, 3) := by decide +kernel
theorem xnd_SC_at_22 : decode xnc_SC_at 22 = .ok (.getfield 90, 3) := by decide +kernel
theorem xnd_SC_at_25 : decode xnc_SC_at 25 = .ok (.iload_n 1, 1) := by decide +kernel
theorem xnd_SC_at_26 : decode xnc_SC_at 26 = .ok (.iaload, 1) := by decide +kernel
theorem xnd_SC_at_27 : decode xnc_SC_at 27 = .ok (.goto 4, 3) := by decide +kernel
theorem xnd_SC_at_30 : decode xnc_SC_at 30 = .ok (.iconst (-1), 1) := by decide +kernel
theorem xnd_SC_at_31 : decode xnc_SC_at 31 = .ok (.ireturn, 1) := by decide +kernel
theorem xnd_SC_item_0 : decode xnc_SC_item 0 = .ok (.aload_n 0, 1) := by decide +kernel
theorem xnd_SC_item_1 : decode xnc_SC_item 1 = .ok (.iload_n 1, 1) := by decide +kernel
theorem xnd_SC_item_2 : decode xnc_SC_item 2 = .ok (.invokevirtual 94, 3) := by decide +kernel
theorem xnd_SC_item_5 : decode xnc_SC_item 5 = .ok (.ifCond .ne 5, 3) := by decide +kernel
theorem xnd_SC_item_8 : decode xnc_SC_item 8 = .ok (.iconst 0, 1) := by decide +kernel
theorem xnd_SC_item_9 : decode xnc_SC_item 9 = .ok (.ireturn, 1) := by decide +kernel
theorem xnd_SC_item_10 : decode xnc_SC_item 10 = .ok (.iload_n 2, 1) := by decide +kernel
theorem xnd_SC_item_11 : decode xnc_SC_item 11 = .ok (.tableswitch 91 0 4 #[33, 43, 53, 63, 73], 33) := by decide +kernel
theorem xnd_SC_item_44 : decode xnc_SC_item 44 = .ok (.aload_n 0, 1) := by decide +kernel
theorem xnd_SC_item_45 : decode xnc_SC_item 45 = .ok (.getfield 25, 3) := by decide +kernel
theorem xnd_SC_item_48 : decode xnc_SC_item 48 = .ok (.getfield 97, 3) := by decide +kernel
theorem xnd_SC_item_51 : decode xnc_SC_item 51 = .ok (.iload_n 1, 1) := by decide +kernel
theorem xnd_SC_item_52 : decode xnc_SC_item 52 = .ok (.iaload, 1) := by decide +kernel
theorem xnd_SC_item_53 : decode xnc_SC_item 53 = .ok (.ireturn, 1) := by decide +kernel
theorem xnd_SC_item_54 : decode xnc_SC_item 54 = .ok (.aload_n 0, 1) := by decide +kernel
theorem xnd_SC_item_55 : decode xnc_SC_item 55 = .ok (.getfield 25, 3) := by decide +kernel
theorem xnd_SC_item_58 : decode xnc_SC_item 58 = .ok (.getfield 100, 3) := by decide +kernel
theorem xnd_SC_item_61 : decode xnc_SC_item 61 = .ok (.iload_n 1, 1) := by decide +kernel
theorem xnd_SC_item_62 : decode xnc_SC_item 62 = .ok (.iaload, 1) := by decide +kernel
theorem xnd_SC_item_63 : decode xnc_SC_item 63 = .ok (.ireturn, 1) := by decide +kernel
theorem xnd_SC_item_64 : decode xnc_SC_item 64 = .ok (.aload_n 0, 1) := by decide +kernel
theorem xnd_SC_item_65 : decode xnc_SC_item 65 = .ok (.getfield 25, 3) := by decide +kernel
theorem xnd_SC_item_68 : decode xnc_SC_item 68 = .ok (.getfield 103, 3) := by decide +kernel
theorem xnd_SC_item_71 : decode xnc_SC_item 71 = .ok (.iload_n 1, 1) := by decide +kernel
theorem xnd_SC_item_72 : decode xnc_SC_item 72 = .ok (.iaload, 1) := by decide +kernel
theorem xnd_SC_item_73 : decode xnc_SC_item 73 = .ok (.ireturn, 1) := by decide +kernel
theorem xnd_SC_item_74 : decode xnc_SC_item 74 = .ok (.aload_n 0, 1) := by decide +kernel
theorem xnd_SC_item_75 : decode xnc_SC_item 75 = .ok (.getfield 25, 3) := by decide +kernel
theorem xnd_SC_item_78 : decode xnc_SC_item 78 = .ok (.getfield 106, 3) := by decide +kernel
theorem xnd_SC_item_81 : decode xnc_SC_item 81 = .ok (.iload_n 1, 1) := by decide +kernel
theorem xnd_SC_item_82 : decode xnc_SC_item 82 = .ok (.iaload, 1) := by decide +kernel
theorem xnd_SC_item_83 : decode xnc_SC_item 83 = .ok (.ireturn, 1) := by decide +kernel
theorem xnd_SC_item_84 : decode xnc_SC_item 84 = .ok (.aload_n 0, 1) := by decide +kernel
theorem xnd_SC_item_85 : decode xnc_SC_item 85 = .ok (.getfield 25, 3) := by decide +kernel
theorem xnd_SC_item_88 : decode xnc_SC_item 88 = .ok (.getfield 109, 3) := by decide +kernel
theorem xnd_SC_item_91 : decode xnc_SC_item 91 = .ok (.iload_n 1, 1) := by decide +kernel
theorem xnd_SC_item_92 : decode xnc_SC_item 92 = .ok (.baload, 1) := by decide +kernel
theorem xnd_SC_item_93 : decode xnc_SC_item 93 = .ok (.ifCond .eq 7, 3) := by decide +kernel
theorem xnd_SC_item_96 : decode xnc_SC_item 96 = .ok (.iconst 1, 1) := by decide +kernel
theorem xnd_SC_item_97 : decode xnc_SC_item 97 = .ok (.goto 4, 3) := by decide +kernel
theorem xnd_SC_item_100 : decode xnc_SC_item 100 = .ok (.iconst 0, 1) := by decide +kernel
theorem xnd_SC_item_101 : decode xnc_SC_item 101 = .ok (.ireturn, 1) := by decide +kernel
theorem xnd_SC_item_102 : decode xnc_SC_item 102 = .ok (.iconst 0, 1) := by decide +kernel
theorem xnd_SC_item_103 : decode xnc_SC_item 103 = .ok (.ireturn, 1) := by decide +kernel
theorem xnd_SC_isUsedItem_0 : decode xnc_SC_isUsedItem 0 = .ok (.iload_n 1, 1) := by decide +kernel
theorem xnd_SC_isUsedItem_1 : decode xnc_SC_isUsedItem 1 = .ok (.iconst 0, 1) := by decide +kernel
theorem xnd_SC_isUsedItem_2 : decode xnc_SC_isUsedItem 2 = .ok (.aload_n 0, 1) := by decide +kernel
theorem xnd_SC_isUsedItem_3 : decode xnc_SC_isUsedItem 3 = .ok (.getfield 25, 3) := by decide +kernel
theorem xnd_SC_isUsedItem_6 : decode xnc_SC_isUsedItem 6 = .ok (.getfield 155, 3) := by decide +kernel
theorem xnd_SC_isUsedItem_9 : decode xnc_SC_isUsedItem 9 = .ok (.iconst 1, 1) := by decide +kernel
theorem xnd_SC_isUsedItem_10 : decode xnc_SC_isUsedItem 10 = .ok (.isub, 1) := by decide +kernel
theorem xnd_SC_isUsedItem_11 : decode xnc_SC_isUsedItem 11 = .ok (.invokestatic 18, 3) := by decide +kernel
theorem xnd_SC_isUsedItem_14 : decode xnc_SC_isUsedItem 14 = .ok (.ifCond .eq 19, 3) := by decide +kernel
theorem xnd_SC_isUsedItem_17 : decode xnc_SC_isUsedItem 17 = .ok (.aload_n 0, 1) := by decide +kernel
theorem xnd_SC_isUsedItem_18 : decode xnc_SC_isUsedItem 18 = .ok (.getfield 25, 3) := by decide +kernel
theorem xnd_SC_isUsedItem_21 : decode xnc_SC_isUsedItem 21 = .ok (.getfield 158, 3) := by decide +kernel
theorem xnd_SC_isUsedItem_24 : decode xnc_SC_isUsedItem 24 = .ok (.iload_n 1, 1) := by decide +kernel
theorem xnd_SC_isUsedItem_25 : decode xnc_SC_isUsedItem 25 = .ok (.baload, 1) := by decide +kernel
theorem xnd_SC_isUsedItem_26 : decode xnc_SC_isUsedItem 26 = .ok (.ifCond .eq 7, 3) := by decide +kernel
theorem xnd_SC_isUsedItem_29 : decode xnc_SC_isUsedItem 29 = .ok (.iconst 1, 1) := by decide +kernel
theorem xnd_SC_isUsedItem_30 : decode xnc_SC_isUsedItem 30 = .ok (.goto 4, 3) := by decide +kernel
theorem xnd_SC_isUsedItem_33 : decode xnc_SC_isUsedItem 33 = .ok (.iconst 0, 1) := by decide +kernel
theorem xnd_SC_isUsedItem_34 : decode xnc_SC_isUsedItem 34 = .ok (.ireturn, 1) := by decide +kernel
theorem xnd_SC_used_0 : decode xnc_SC_used 0 = .ok (.aload_n 0, 1) := by decide +kernel
theorem xnd_SC_used_1 : decode xnc_SC_used 1 = .ok (.iload_n 1, 1) := by decide +kernel
theorem xnd_SC_used_2 : decode xnc_SC_used 2 = .ok (.invokevirtual 94, 3) := by decide +kernel
theorem xnd_SC_used_5 : decode xnc_SC_used 5 = .ok (.ireturn, 1) := by decide +kernel
theorem xnd_SC_version_0 : decode xnc_SC_version 0 = .ok (.iload_n 1, 1) := by decide +kernel
theorem xnd_SC_version_1 : decode xnc_SC_version 1 = .ok (.iconst 0, 1) := by decide +kernel
theorem xnd_SC_version_2 : decode xnc_SC_version 2 = .ok (.iconst 3, 1) := by decide +kernel
theorem xnd_SC_version_3 : decode xnc_SC_version 3 = .ok (.invokestatic 18, 3) := by decide +kernel
theorem xnd_SC_version_6 : decode xnc_SC_version 6 = .ok (.ifCond .eq 15, 3) := by decide +kernel
theorem xnd_SC_version_9 : decode xnc_SC_version 9 = .ok (.aload_n 0, 1) := by decide +kernel
theorem xnd_SC_version_10 : decode xnc_SC_version 10 = .ok (.getfield 25, 3) := by decide +kernel
theorem xnd_SC_version_13 : decode xnc_SC_version 13 = .ok (.getfield 113, 3) := by decide +kernel
theorem xnd_SC_version_16 : decode xnc_SC_version 16 = .ok (.iload_n 1, 1) := by decide +kernel
theorem xnd_SC_version_17 : decode xnc_SC_version 17 = .ok (.iaload, 1) := by decide +kernel
theorem xnd_SC_version_18 : decode xnc_SC_version 18 = .ok (.goto 4, 3) := by decide +kernel
theorem xnd_SC_version_21 : decode xnc_SC_version 21 = .ok (.iconst (-1), 1) := by decide +kernel
theorem xnd_SC_version_22 : decode xnc_SC_version 22 = .ok (.ireturn, 1) := by decide +kernel
theorem xnd_SC_hash_0 : decode xnc_SC_hash 0 = .ok (.iload_n 1, 1) := by decide +kernel
theorem xnd_SC_hash_1 : decode xnc_SC_hash 1 = .ok (.invokestatic 116, 3) := by decide +kernel
theorem xnd_SC_hash_4 : decode xnc_SC_hash 4 = .ok (.bipush 8, 2) := by decide +kernel
theorem xnd_SC_hash_6 : decode xnc_SC_hash 6 = .ok (.iload_n 1, 1) := by decide +kernel
theorem xnd_SC_hash_7 : decode xnc_SC_hash 7 = .ok (.invokestatic 119, 3) := by decide +kernel
theorem xnd_SC_hash_10 : decode xnc_SC_hash 10 = .ok (.imul, 1) := by decide +kernel
theorem xnd_SC_hash_11 : decode xnc_SC_hash 11 = .ok (.iadd, 1) := by decide +kernel
theorem xnd_SC_hash_12 : decode xnc_SC_hash 12 = .ok (.bipush 64, 2) := by decide +kernel
theorem xnd_SC_hash_14 : decode xnc_SC_hash 14 = .ok (.iload_n 1, 1) := by decide +kernel
theorem xnd_SC_hash_15 : decode xnc_SC_hash 15 = .ok (.invokestatic 122, 3) := by decide +kernel
theorem xnd_SC_hash_18 : decode xnc_SC_hash 18 = .ok (.imul, 1) := by decide +kernel
theorem xnd_SC_hash_19 : decode xnc_SC_hash 19 = .ok (.iadd, 1) := by decide +kernel
theorem xnd_SC_hash_20 : decode xnc_SC_hash 20 = .ok (.sipush 1024, 3) := by decide +kernel
theorem xnd_SC_hash_23 : decode xnc_SC_hash 23 = .ok (.iload_n 1, 1) := by decide +kernel
theorem xnd_SC_hash_24 : decode xnc_SC_hash 24 = .ok (.invokestatic 125, 3) := by decide +kernel
theorem xnd_SC_hash_27 : decode xnc_SC_hash 27 = .ok (.imul, 1) := by decide +kernel
theorem xnd_SC_hash_28 : decode xnc_SC_hash 28 = .ok (.iadd, 1) := by decide +kernel
theorem xnd_SC_hash_29 : decode xnc_SC_hash 29 = .ok (.ireturn, 1) := by decide +kernel
theorem xnd_SC_count_0 : decode xnc_SC_count 0 = .ok (.iload_n 1, 1) := by decide +kernel
theorem xnd_SC_count_1 : decode xnc_SC_count 1 = .ok (.tableswitch 135 0 9 #[55, 63, 71, 79, 87, 95, 103, 111, 119, 127], 55) := by decide +kernel
theorem xnd_SC_count_56 : decode xnc_SC_count 56 = .ok (.aload_n 0, 1) := by decide +kernel
theorem xnd_SC_count_57 : decode xnc_SC_count 57 = .ok (.getfield 25, 3) := by decide +kernel
theorem xnd_SC_count_60 : decode xnc_SC_count 60 = .ok (.getfield 128, 3) := by decide +kernel
theorem xnd_SC_count_63 : decode xnc_SC_count 63 = .ok (.ireturn, 1) := by decide +kernel
theorem xnd_SC_count_64 : decode xnc_SC_count 64 = .ok (.aload_n 0, 1) := by decide +kernel
theorem xnd_SC_count_65 : decode xnc_SC_count 65 = .ok (.getfield 10, 3) := by decide +kernel
theorem xnd_SC_count_68 : decode xnc_SC_count 68 = .ok (.getfield 131, 3) := by decide +kernel
theorem xnd_SC_count_71 : decode xnc_SC_count 71 = .ok (.ireturn, 1) := by decide +kernel
theorem xnd_SC_count_72 : decode xnc_SC_count 72 = .ok (.aload_n 0, 1) := by decide +kernel
theorem xnd_SC_count_73 : decode xnc_SC_count 73 = .ok (.getfield 10, 3) := by decide +kernel
theorem xnd_SC_count_76 : decode xnc_SC_count 76 = .ok (.getfield 134, 3) := by decide +kernel
theorem xnd_SC_count_79 : decode xnc_SC_count 79 = .ok (.ireturn, 1) := by decide +kernel
theorem xnd_SC_count_80 : decode xnc_SC_count 80 = .ok (.aload_n 0, 1) := by decide +kernel
theorem xnd_SC_count_81 : decode xnc_SC_count 81 = .ok (.getfield 10, 3) := by decide +kernel
theorem xnd_SC_count_84 : decode xnc_SC_count 84 = .ok (.getfield 137, 3) := by decide +kernel
theorem xnd_SC_count_87 : decode xnc_SC_count 87 = .ok (.ireturn, 1) := by decide +kernel
theorem xnd_SC_count_88 : decode xnc_SC_count 88 = .ok (.aload_n 0, 1) := by decide +kernel
theorem xnd_SC_count_89 : decode xnc_SC_count 89 = .ok (.getfield 10, 3) := by decide +kernel
theorem xnd_SC_count_92 : decode xnc_SC_count 92 = .ok (.getfield 140, 3) := by decide +kernel
theorem xnd_SC_count_95 : decode xnc_SC_count 95 = .ok (.ireturn, 1) := by decide +kernel
theorem xnd_SC_count_96 : decode xnc_SC_count 96 = .ok (.aload_n 0, 1) := by decide +kernel
theorem xnd_SC_count_97 : decode xnc_SC_count 97 = .ok (.getfield 10, 3) := by decide +kernel
theorem xnd_SC_count_100 : decode xnc_SC_count 100 = .ok (.getfield 143, 3) := by decide +kernel
theorem xnd_SC_count_103 : decode xnc_SC_count 103 = .ok (.ireturn, 1) := by decide +kernel
theorem xnd_SC_count_104 : decode xnc_SC_count 104 = .ok (.aload_n 0, 1) := by decide +kernel
theorem xnd_SC_count_105 : decode xnc_SC_count 105 = .ok (.getfield 10, 3) := by decide +kernel
theorem xnd_SC_count_108 : decode xnc_SC_count 108 = .ok (.getfield 146, 3) := by decide +kernel
theorem xnd_SC_count_111 : decode xnc_SC_count 111 = .ok (.ireturn, 1) := by decide +kernel
theorem xnd_SC_count_112 : decode xnc_SC_count 112 = .ok (.aload_n 0, 1) := by decide +kernel
theorem xnd_SC_count_113 : decode xnc_SC_count 113 = .ok (.getfield 25, 3) := by decide +kernel
theorem xnd_SC_count_116 : decode xnc_SC_count 116 = .ok (.getfield 83, 3) := by decide +kernel
theorem xnd_SC_count_119 : decode xnc_SC_count 119 = .ok (.ireturn, 1) := by decide +kernel
theorem xnd_SC_count_120 : decode xnc_SC_count 120 = .ok (.aload_n 0, 1) := by decide +kernel
theorem xnd_SC_count_121 : decode xnc_SC_count 121 = .ok (.getfield 34, 3) := by decide +kernel
theorem xnd_SC_count_124 : decode xnc_SC_count 124 = .ok (.getfield 149, 3) := by decide +kernel
theorem xnd_SC_count_127 : decode xnc_SC_count 127 = .ok (.ireturn, 1) := by decide +kernel
theorem xnd_SC_count_128 : decode xnc_SC_count 128 = .ok (.aload_n 0, 1) := by decide +kernel
theorem xnd_SC_count_129 : decode xnc_SC_count 129 = .ok (.getfield 25, 3) := by decide +kernel
theorem xnd_SC_count_132 : decode xnc_SC_count 132 = .ok (.getfield 152, 3) := by decide +kernel
theorem xnd_SC_count_135 : decode xnc_SC_count 135 = .ok (.ireturn, 1) := by decide +kernel
theorem xnd_SC_count_136 : decode xnc_SC_count 136 = .ok (.iconst (-1), 1) := by decide +kernel
theorem xnd_SC_count_137 : decode xnc_SC_count 137 = .ok (.ireturn, 1) := by decide +kernel
