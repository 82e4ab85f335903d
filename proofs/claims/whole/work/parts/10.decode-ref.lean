theorem xnd_MO_init_0 : decode xnc_MO_init 0 = .ok (.aload_n 0, 1) := by decide +kernel
theorem xnd_MO_init_1 : decode xnc_MO_init 1 = .ok (.invokespecial 1, 3) := by decide +kernel
theorem xnd_MO_init_4 : decode xnc_MO_init 4 = .ok (.aload_n 0, 1) := by decide +kernel
theorem xnd_MO_init_5 : decode xnc_MO_init 5 = .ok (.bipush 32, 2) := by decide +kernel
theorem xnd_MO_init_7 : decode xnc_MO_init 7 = .ok (.newarray .int, 2) := by decide +kernel
theorem xnd_MO_init_9 : decode xnc_MO_init 9 = .ok (.putfield 7, 3) := by decide +kernel
theorem xnd_MO_init_12 : decode xnc_MO_init 12 = .ok (.aload_n 0, 1) := by decide +kernel
theorem xnd_MO_init_13 : decode xnc_MO_init 13 = .ok (.bipush 32, 2) := by decide +kernel
theorem xnd_MO_init_15 : decode xnc_MO_init 15 = .ok (.newarray .boolean, 2) := by decide +kernel
theorem xnd_MO_init_17 : decode xnc_MO_init 17 = .ok (.putfield 13, 3) := by decide +kernel
theorem xnd_MO_init_20 : decode xnc_MO_init 20 = .ok (.aload_n 0, 1) := by decide +kernel
theorem xnd_MO_init_21 : decode xnc_MO_init 21 = .ok (.bipush 32, 2) := by decide +kernel
theorem xnd_MO_init_23 : decode xnc_MO_init 23 = .ok (.newarray .int, 2) := by decide +kernel
theorem xnd_MO_init_25 : decode xnc_MO_init 25 = .ok (.putfield 17, 3) := by decide +kernel
theorem xnd_MO_init_28 : decode xnc_MO_init 28 = .ok (.aload_n 0, 1) := by decide +kernel
theorem xnd_MO_init_29 : decode xnc_MO_init 29 = .ok (.bipush 32, 2) := by decide +kernel
theorem xnd_MO_init_31 : decode xnc_MO_init 31 = .ok (.newarray .int, 2) := by decide +kernel
theorem xnd_MO_init_33 : decode xnc_MO_init 33 = .ok (.putfield 20, 3) := by decide +kernel
theorem xnd_MO_init_36 : decode xnc_MO_init 36 = .ok (.aload_n 0, 1) := by decide +kernel
theorem xnd_MO_init_37 : decode xnc_MO_init 37 = .ok (.bipush 32, 2) := by decide +kernel
theorem xnd_MO_init_39 : decode xnc_MO_init 39 = .ok (.newarray .int, 2) := by decide +kernel
theorem xnd_MO_init_41 : decode xnc_MO_init 41 = .ok (.putfield 23, 3) := by decide +kernel
theorem xnd_MO_init_44 : decode xnc_MO_init 44 = .ok (.aload_n 0, 1) := by decide +kernel
theorem xnd_MO_init_45 : decode xnc_MO_init 45 = .ok (.bipush 32, 2) := by decide +kernel
theorem xnd_MO_init_47 : decode xnc_MO_init 47 = .ok (.newarray .int, 2) := by decide +kernel
theorem xnd_MO_init_49 : decode xnc_MO_init 49 = .ok (.putfield 26, 3) := by decide +kernel
theorem xnd_MO_init_52 : decode xnc_MO_init 52 = .ok (.aload_n 0, 1) := by decide +kernel
theorem xnd_MO_init_53 : decode xnc_MO_init 53 = .ok (.bipush 32, 2) := by decide +kernel
theorem xnd_MO_init_55 : decode xnc_MO_init 55 = .ok (.newarray .boolean, 2) := by decide +kernel
theorem xnd_MO_init_57 : decode xnc_MO_init 57 = .ok (.putfield 29, 3) := by decide +kernel
theorem xnd_MO_init_60 : decode xnc_MO_init 60 = .ok (.aload_n 0, 1) := by decide +kernel
theorem xnd_MO_init_61 : decode xnc_MO_init 61 = .ok (.iconst 4, 1) := by decide +kernel
theorem xnd_MO_init_62 : decode xnc_MO_init 62 = .ok (.newarray .int, 2) := by decide +kernel
theorem xnd_MO_init_64 : decode xnc_MO_init 64 = .ok (.putfield 32, 3) := by decide +kernel
theorem xnd_MO_init_67 : decode xnc_MO_init 67 = .ok (.aload_n 0, 1) := by decide +kernel
theorem xnd_MO_init_68 : decode xnc_MO_init 68 = .ok (.iconst (-1), 1) := by decide +kernel
theorem xnd_MO_init_69 : decode xnc_MO_init 69 = .ok (.putfield 35, 3) := by decide +kernel
theorem xnd_MO_init_72 : decode xnc_MO_init 72 = .ok (.aload_n 0, 1) := by decide +kernel
theorem xnd_MO_init_73 : decode xnc_MO_init 73 = .ok (.iconst 5, 1) := by decide +kernel
theorem xnd_MO_init_74 : decode xnc_MO_init 74 = .ok (.newarray .int, 2) := by decide +kernel
theorem xnd_MO_init_76 : decode xnc_MO_init 76 = .ok (.putfield 39, 3) := by decide +kernel
theorem xnd_MO_init_79 : decode xnc_MO_init 79 = .ok (.aload_n 0, 1) := by decide +kernel
theorem xnd_MO_init_80 : decode xnc_MO_init 80 = .ok (.iconst 3, 1) := by decide +kernel
theorem xnd_MO_init_81 : decode xnc_MO_init 81 = .ok (.newarray .int, 2) := by decide +kernel
theorem xnd_MO_init_83 : decode xnc_MO_init 83 = .ok (.putfield 42, 3) := by decide +kernel
theorem xnd_MO_init_86 : decode xnc_MO_init 86 = .ok (.aload_n 0, 1) := by decide +kernel
theorem xnd_MO_init_87 : decode xnc_MO_init 87 = .ok (.iconst 3, 1) := by decide +kernel
theorem xnd_MO_init_88 : decode xnc_MO_init 88 = .ok (.newarray .int, 2) := by decide +kernel
theorem xnd_MO_init_90 : decode xnc_MO_init 90 = .ok (.putfield 45, 3) := by decide +kernel
theorem xnd_MO_init_93 : decode xnc_MO_init 93 = .ok (.aload_n 0, 1) := by decide +kernel
theorem xnd_MO_init_94 : decode xnc_MO_init 94 = .ok (.iconst 3, 1) := by decide +kernel
theorem xnd_MO_init_95 : decode xnc_MO_init 95 = .ok (.newarray .int, 2) := by decide +kernel
theorem xnd_MO_init_97 : decode xnc_MO_init 97 = .ok (.putfield 48, 3) := by decide +kernel
theorem xnd_MO_init_100 : decode xnc_MO_init 100 = .ok (.aload_n 0, 1) := by decide +kernel
theorem xnd_MO_init_101 : decode xnc_MO_init 101 = .ok (.iconst 3, 1) := by decide +kernel
theorem xnd_MO_init_102 : decode xnc_MO_init 102 = .ok (.newarray .int, 2) := by decide +kernel
theorem xnd_MO_init_104 : decode xnc_MO_init 104 = .ok (.putfield 51, 3) := by decide +kernel
theorem xnd_MO_init_107 : decode xnc_MO_init 107 = .ok (.aload_n 0, 1) := by decide +kernel
theorem xnd_MO_init_108 : decode xnc_MO_init 108 = .ok (.iconst 3, 1) := by decide +kernel
theorem xnd_MO_init_109 : decode xnc_MO_init 109 = .ok (.newarray .int, 2) := by decide +kernel
theorem xnd_MO_init_111 : decode xnc_MO_init 111 = .ok (.putfield 54, 3) := by decide +kernel
theorem xnd_MO_init_114 : decode xnc_MO_init 114 = .ok (.aload_n 0, 1) := by decide +kernel
theorem xnd_MO_init_115 : decode xnc_MO_init 115 = .ok (.iconst 3, 1) := by decide +kernel
theorem xnd_MO_init_116 : decode xnc_MO_init 116 = .ok (.newarray .int, 2) := by decide +kernel
theorem xnd_MO_init_118 : decode xnc_MO_init 118 = .ok (.putfield 57, 3) := by decide +kernel
theorem xnd_MO_init_121 : decode xnc_MO_init 121 = .ok (.aload_n 0, 1) := by decide +kernel
theorem xnd_MO_init_122 : decode xnc_MO_init 122 = .ok (.iconst 3, 1) := by decide +kernel
theorem xnd_MO_init_123 : decode xnc_MO_init 123 = .ok (.newarray .int, 2) := by decide +kernel
theorem xnd_MO_init_125 : decode xnc_MO_init 125 = .ok (.putfield 60, 3) := by decide +kernel
theorem xnd_MO_init_128 : decode xnc_MO_init 128 = .ok (.aload_n 0, 1) := by decide +kernel
theorem xnd_MO_init_129 : decode xnc_MO_init 129 = .ok (.iconst 3, 1) := by decide +kernel
theorem xnd_MO_init_130 : decode xnc_MO_init 130 = .ok (.newarray .int, 2) := by decide +kernel
theorem xnd_MO_init_132 : decode xnc_MO_init 132 = .ok (.putfield 63, 3) := by decide +kernel
theorem xnd_MO_init_135 : decode xnc_MO_init 135 = .ok (.aload_n 0, 1) := by decide +kernel
theorem xnd_MO_init_136 : decode xnc_MO_init 136 = .ok (.iload_n 1, 1) := by decide +kernel
theorem xnd_MO_init_137 : decode xnc_MO_init 137 = .ok (.iconst 1, 1) := by decide +kernel
theorem xnd_MO_init_138 : decode xnc_MO_init 138 = .ok (.if_icmp .lt 9, 3) := by decide +kernel
theorem xnd_MO_init_141 : decode xnc_MO_init 141 = .ok (.iload_n 1, 1) := by decide +kernel
theorem xnd_MO_init_142 : decode xnc_MO_init 142 = .ok (.bipush 32, 2) := by decide +kernel
theorem xnd_MO_init_144 : decode xnc_MO_init 144 = .ok (.if_icmp .le 8, 3) := by decide +kernel
theorem xnd_MO_init_147 : decode xnc_MO_init 147 = .ok (.bipush 12, 2) := by decide +kernel
theorem xnd_MO_init_149 : decode xnc_MO_init 149 = .ok (.goto 4, 3) := by decide +kernel
theorem xnd_MO_init_152 : decode xnc_MO_init 152 = .ok (.iload_n 1, 1) := by decide +kernel
theorem xnd_MO_init_153 : decode xnc_MO_init 153 = .ok (.putfield 66, 3) := by decide +kernel
theorem xnd_MO_init_156 : decode xnc_MO_init 156 = .ok (.aload_n 0, 1) := by decide +kernel
theorem xnd_MO_init_157 : decode xnc_MO_init 157 = .ok (.iload_n 2, 1) := by decide +kernel
theorem xnd_MO_init_158 : decode xnc_MO_init 158 = .ok (.iconst 1, 1) := by decide +kernel
theorem xnd_MO_init_159 : decode xnc_MO_init 159 = .ok (.if_icmp .lt 8, 3) := by decide +kernel
theorem xnd_MO_init_162 : decode xnc_MO_init 162 = .ok (.iload_n 2, 1) := by decide +kernel
theorem xnd_MO_init_163 : decode xnc_MO_init 163 = .ok (.iconst 4, 1) := by decide +kernel
theorem xnd_MO_init_164 : decode xnc_MO_init 164 = .ok (.if_icmp .le 7, 3) := by decide +kernel
theorem xnd_MO_init_167 : decode xnc_MO_init 167 = .ok (.iconst 2, 1) := by decide +kernel
theorem xnd_MO_init_168 : decode xnc_MO_init 168 = .ok (.goto 4, 3) := by decide +kernel
theorem xnd_MO_init_171 : decode xnc_MO_init 171 = .ok (.iload_n 2, 1) := by decide +kernel
theorem xnd_MO_init_172 : decode xnc_MO_init 172 = .ok (.putfield 69, 3) := by decide +kernel
theorem xnd_MO_init_175 : decode xnc_MO_init 175 = .ok (.return_, 1) := by decide +kernel
theorem xnd_MO_hash_0 : decode xnc_MO_hash 0 = .ok (.iload_n 1, 1) := by decide +kernel
theorem xnd_MO_hash_1 : decode xnc_MO_hash 1 = .ok (.iconst 0, 1) := by decide +kernel
theorem xnd_MO_hash_2 : decode xnc_MO_hash 2 = .ok (.invokestatic 80, 3) := by decide +kernel
theorem xnd_MO_hash_5 : decode xnc_MO_hash 5 = .ok (.bipush 8, 2) := by decide +kernel
theorem xnd_MO_hash_7 : decode xnc_MO_hash 7 = .ok (.iload_n 1, 1) := by decide +kernel
theorem xnd_MO_hash_8 : decode xnc_MO_hash 8 = .ok (.iconst 1, 1) := by decide +kernel
theorem xnd_MO_hash_9 : decode xnc_MO_hash 9 = .ok (.invokestatic 80, 3) := by decide +kernel
theorem xnd_MO_hash_12 : decode xnc_MO_hash 12 = .ok (.imul, 1) := by decide +kernel
theorem xnd_MO_hash_13 : decode xnc_MO_hash 13 = .ok (.iadd, 1) := by decide +kernel
theorem xnd_MO_hash_14 : decode xnc_MO_hash 14 = .ok (.bipush 64, 2) := by decide +kernel
theorem xnd_MO_hash_16 : decode xnc_MO_hash 16 = .ok (.iload_n 1, 1) := by decide +kernel
theorem xnd_MO_hash_17 : decode xnc_MO_hash 17 = .ok (.invokestatic 77, 3) := by decide +kernel
theorem xnd_MO_hash_20 : decode xnc_MO_hash 20 = .ok (.imul, 1) := by decide +kernel
theorem xnd_MO_hash_21 : decode xnc_MO_hash 21 = .ok (.iadd, 1) := by decide +kernel
theorem xnd_MO_hash_22 : decode xnc_MO_hash 22 = .ok (.sipush 1024, 3) := by decide +kernel
theorem xnd_MO_hash_25 : decode xnc_MO_hash 25 = .ok (.iload_n 1, 1) := by decide +kernel
theorem xnd_MO_hash_26 : decode xnc_MO_hash 26 = .ok (.invokestatic 84, 3) := by decide +kernel
theorem xnd_MO_hash_29 : decode xnc_MO_hash 29 = .ok (.imul, 1) := by decide +kernel
theorem xnd_MO_hash_30 : decode xnc_MO_hash 30 = .ok (.iadd, 1) := by decide +kernel
theorem xnd_MO_hash_31 : decode xnc_MO_hash 31 = .ok (.ireturn, 1) := by decide +kernel
theorem xnd_MO_bucket_0 : decode xnc_MO_bucket 0 = .ok (.iload_n 0, 1) := by decide +kernel
theorem xnd_MO_bucket_1 : decode xnc_MO_bucket 1 = .ok (.invokestatic 73, 3) := by decide +kernel
theorem xnd_MO_bucket_4 : decode xnc_MO_bucket 4 = .ok (.bipush 25, 2) := by decide +kernel
theorem xnd_MO_bucket_6 : decode xnc_MO_bucket 6 = .ok (.iushr, 1) := by decide +kernel
theorem xnd_MO_bucket_7 : decode xnc_MO_bucket 7 = .ok (.bipush 7, 2) := by decide +kernel
theorem xnd_MO_bucket_9 : decode xnc_MO_bucket 9 = .ok (.iand, 1) := by decide +kernel
theorem xnd_MO_bucket_10 : decode xnc_MO_bucket 10 = .ok (.istore_n 2, 1) := by decide +kernel
theorem xnd_MO_bucket_11 : decode xnc_MO_bucket 11 = .ok (.iload_n 1, 1) := by decide +kernel
theorem xnd_MO_bucket_12 : decode xnc_MO_bucket 12 = .ok (.ifCond .ne 7, 3) := by decide +kernel
theorem xnd_MO_bucket_15 : decode xnc_MO_bucket 15 = .ok (.iload_n 2, 1) := by decide +kernel
theorem xnd_MO_bucket_16 : decode xnc_MO_bucket 16 = .ok (.goto 14, 3) := by decide +kernel
theorem xnd_MO_bucket_19 : decode xnc_MO_bucket 19 = .ok (.iload_n 2, 1) := by decide +kernel
theorem xnd_MO_bucket_20 : decode xnc_MO_bucket 20 = .ok (.iconst 1, 1) := by decide +kernel
theorem xnd_MO_bucket_21 : decode xnc_MO_bucket 21 = .ok (.iload_n 0, 1) := by decide +kernel
theorem xnd_MO_bucket_22 : decode xnc_MO_bucket 22 = .ok (.invokestatic 77, 3) := by decide +kernel
theorem xnd_MO_bucket_25 : decode xnc_MO_bucket 25 = .ok (.bipush 7, 2) := by decide +kernel
theorem xnd_MO_bucket_27 : decode xnc_MO_bucket 27 = .ok (.irem, 1) := by decide +kernel
theorem xnd_MO_bucket_28 : decode xnc_MO_bucket 28 = .ok (.iadd, 1) := by decide +kernel
theorem xnd_MO_bucket_29 : decode xnc_MO_bucket 29 = .ok (.ixor, 1) := by decide +kernel
theorem xnd_MO_bucket_30 : decode xnc_MO_bucket 30 = .ok (.ireturn, 1) := by decide +kernel
theorem xnd_MO_mix_0 : decode xnc_MO_mix 0 = .ok (.iload_n 0, 1) := by decide +kernel
theorem xnd_MO_mix_1 : decode xnc_MO_mix 1 = .ok (.iload_n 0, 1) := by decide +kernel
theorem xnd_MO_mix_2 : decode xnc_MO_mix 2 = .ok (.bipush 15, 2) := by decide +kernel
theorem xnd_MO_mix_4 : decode xnc_MO_mix 4 = .ok (.iushr, 1) := by decide +kernel
theorem xnd_MO_mix_5 : decode xnc_MO_mix 5 = .ok (.ixor, 1) := by decide +kernel
theorem xnd_MO_mix_6 : decode xnc_MO_mix 6 = .ok (.ldc 72, 2) := by decide +kernel
theorem xnd_MO_mix_8 : decode xnc_MO_mix 8 = .ok (.imul, 1) := by decide +kernel
theorem xnd_MO_mix_9 : decode xnc_MO_mix 9 = .ok (.ireturn, 1) := by decide +kernel
theorem xnd_MO_tag_0 : decode xnc_MO_tag 0 = .ok (.iload_n 0, 1) := by decide +kernel
theorem xnd_MO_tag_1 : decode xnc_MO_tag 1 = .ok (.invokestatic 73, 3) := by decide +kernel
theorem xnd_MO_tag_4 : decode xnc_MO_tag 4 = .ok (.bipush 28, 2) := by decide +kernel
theorem xnd_MO_tag_6 : decode xnc_MO_tag 6 = .ok (.iushr, 1) := by decide +kernel
theorem xnd_MO_tag_7 : decode xnc_MO_tag 7 = .ok (.ireturn, 1) := by decide +kernel
theorem xnd_MO_stripe_0 : decode xnc_MO_stripe 0 = .ok (.iload_n 0, 1) := by decide +kernel
theorem xnd_MO_stripe_1 : decode xnc_MO_stripe 1 = .ok (.invokestatic 73, 3) := by decide +kernel
theorem xnd_MO_stripe_4 : decode xnc_MO_stripe 4 = .ok (.bipush 23, 2) := by decide +kernel
theorem xnd_MO_stripe_6 : decode xnc_MO_stripe 6 = .ok (.iushr, 1) := by decide +kernel
theorem xnd_MO_stripe_7 : decode xnc_MO_stripe 7 = .ok (.iconst 3, 1) := by decide +kernel
theorem xnd_MO_stripe_8 : decode xnc_MO_stripe 8 = .ok (.iand, 1) := by decide +kernel
theorem xnd_MO_stripe_9 : decode xnc_MO_stripe 9 = .ok (.ireturn, 1) := by decide +kernel
theorem xnd_MO_where_0 : decode xnc_MO_where 0 = .ok (.aload_n 0, 1) := by decide +kernel
theorem xnd_MO_where_1 : decode xnc_MO_where 1 = .ok (.iload_n 1, 1) := by decide +kernel
theorem xnd_MO_where_2 : decode xnc_MO_where 2 = .ok (.iconst 0, 1) := by decide +kernel
theorem xnd_MO_where_3 : decode xnc_MO_where 3 = .ok (.invokevirtual 87, 3) := by decide +kernel
theorem xnd_MO_where_6 : decode xnc_MO_where 6 = .ok (.istore_n 2, 1) := by decide +kernel
theorem xnd_MO_where_7 : decode xnc_MO_where 7 = .ok (.iload_n 2, 1) := by decide +kernel
theorem xnd_MO_where_8 : decode xnc_MO_where 8 = .ok (.ifCond .lt 7, 3) := by decide +kernel
theorem xnd_MO_where_11 : decode xnc_MO_where 11 = .ok (.iload_n 2, 1) := by decide +kernel
theorem xnd_MO_where_12 : decode xnc_MO_where 12 = .ok (.goto 9, 3) := by decide +kernel
theorem xnd_MO_where_15 : decode xnc_MO_where 15 = .ok (.aload_n 0, 1) := by decide +kernel
theorem xnd_MO_where_16 : decode xnc_MO_where 16 = .ok (.iload_n 1, 1) := by decide +kernel
theorem xnd_MO_where_17 : decode xnc_MO_where 17 = .ok (.iconst 1, 1) := by decide +kernel
theorem xnd_MO_where_18 : decode xnc_MO_where 18 = .ok (.invokevirtual 87, 3) := by decide +kernel
theorem xnd_MO_where_21 : decode xnc_MO_where 21 = .ok (.ireturn, 1) := by decide +kernel
theorem xnd_MO_search_0 : decode xnc_MO_search 0 = .ok (.iload_n 1, 1) := by decide +kernel
theorem xnd_MO_search_1 : decode xnc_MO_search 1 = .ok (.iload_n 2, 1) := by decide +kernel
theorem xnd_MO_search_2 : decode xnc_MO_search 2 = .ok (.invokestatic 80, 3) := by decide +kernel
theorem xnd_MO_search_5 : decode xnc_MO_search 5 = .ok (.istore_n 3, 1) := by decide +kernel
theorem xnd_MO_search_6 : decode xnc_MO_search 6 = .ok (.iconst 0, 1) := by decide +kernel
theorem xnd_MO_search_7 : decode xnc_MO_search 7 = .ok (.istore 4, 2) := by decide +kernel
theorem xnd_MO_search_9 : decode xnc_MO_search 9 = .ok (.iload 4, 2) := by decide +kernel
theorem xnd_MO_search_11 : decode xnc_MO_search 11 = .ok (.aload_n 0, 1) := by decide +kernel
theorem xnd_MO_search_12 : decode xnc_MO_search 12 = .ok (.getfield 69, 3) := by decide +kernel
theorem xnd_MO_search_15 : decode xnc_MO_search 15 = .ok (.if_icmp .ge 53, 3) := by decide +kernel
theorem xnd_MO_search_18 : decode xnc_MO_search 18 = .ok (.aload_n 0, 1) := by decide +kernel
theorem xnd_MO_search_19 : decode xnc_MO_search 19 = .ok (.getfield 7, 3) := by decide +kernel
theorem xnd_MO_search_22 : decode xnc_MO_search 22 = .ok (.aload_n 0, 1) := by decide +kernel
theorem xnd_MO_search_23 : decode xnc_MO_search 23 = .ok (.getfield 69, 3) := by decide +kernel
theorem xnd_MO_search_26 : decode xnc_MO_search 26 = .ok (.iload_n 3, 1) := by decide +kernel
theorem xnd_MO_search_27 : decode xnc_MO_search 27 = .ok (.imul, 1) := by decide +kernel
theorem xnd_MO_search_28 : decode xnc_MO_search 28 = .ok (.iload 4, 2) := by decide +kernel
theorem xnd_MO_search_30 : decode xnc_MO_search 30 = .ok (.iadd, 1) := by decide +kernel
theorem xnd_MO_search_31 : decode xnc_MO_search 31 = .ok (.iaload, 1) := by decide +kernel
theorem xnd_MO_search_32 : decode xnc_MO_search 32 = .ok (.iconst 1, 1) := by decide +kernel
theorem xnd_MO_search_33 : decode xnc_MO_search 33 = .ok (.isub, 1) := by decide +kernel
theorem xnd_MO_search_34 : decode xnc_MO_search 34 = .ok (.istore 5, 2) := by decide +kernel
theorem xnd_MO_search_36 : decode xnc_MO_search 36 = .ok (.iload 5, 2) := by decide +kernel
theorem xnd_MO_search_38 : decode xnc_MO_search 38 = .ok (.ifCond .lt 24, 3) := by decide +kernel
theorem xnd_MO_search_41 : decode xnc_MO_search 41 = .ok (.aload_n 0, 1) := by decide +kernel
theorem xnd_MO_search_42 : decode xnc_MO_search 42 = .ok (.getfield 17, 3) := by decide +kernel
theorem xnd_MO_search_45 : decode xnc_MO_search 45 = .ok (.iload 5, 2) := by decide +kernel
theorem xnd_MO_search_47 : decode xnc_MO_search 47 = .ok (.iaload, 1) := by decide +kernel
theorem xnd_MO_search_48 : decode xnc_MO_search 48 = .ok (.iload_n 1, 1) := by decide +kernel
theorem xnd_MO_search_49 : decode xnc_MO_search 49 = .ok (.if_icmp .ne 13, 3) := by decide +kernel
theorem xnd_MO_search_52 : decode xnc_MO_search 52 = .ok (.aload_n 0, 1) := by decide +kernel
theorem xnd_MO_search_53 : decode xnc_MO_search 53 = .ok (.getfield 69, 3) := by decide +kernel
theorem xnd_MO_search_56 : decode xnc_MO_search 56 = .ok (.iload_n 3, 1) := by decide +kernel
theorem xnd_MO_search_57 : decode xnc_MO_search 57 = .ok (.imul, 1) := by decide +kernel
theorem xnd_MO_search_58 : decode xnc_MO_search 58 = .ok (.iload 4, 2) := by decide +kernel
theorem xnd_MO_search_60 : decode xnc_MO_search 60 = .ok (.iadd, 1) := by decide +kernel
theorem xnd_MO_search_61 : decode xnc_MO_search 61 = .ok (.ireturn, 1) := by decide +kernel
theorem xnd_MO_search_62 : decode xnc_MO_search 62 = .ok (.iinc 4 1, 3) := by decide +kernel
theorem xnd_MO_search_65 : decode xnc_MO_search 65 = .ok (.goto (-56), 3) := by decide +kernel
theorem xnd_MO_search_68 : decode xnc_MO_search 68 = .ok (.iconst (-1), 1) := by decide +kernel
theorem xnd_MO_search_69 : decode xnc_MO_search 69 = .ok (.ireturn, 1) := by decide +kernel
theorem xnd_MO_write_0 : decode xnc_MO_write 0 = .ok (.aload_n 0, 1) := by decide +kernel
theorem xnd_MO_write_1 : decode xnc_MO_write 1 = .ok (.getfield 99, 3) := by decide +kernel
theorem xnd_MO_write_4 : decode xnc_MO_write 4 = .ok (.ifCond .gt 25, 3) := by decide +kernel
theorem xnd_MO_write_7 : decode xnc_MO_write 7 = .ok (.iload_n 1, 1) := by decide +kernel
theorem xnd_MO_write_8 : decode xnc_MO_write 8 = .ok (.ifCond .lt 21, 3) := by decide +kernel
theorem xnd_MO_write_11 : decode xnc_MO_write 11 = .ok (.iload_n 1, 1) := by decide +kernel
theorem xnd_MO_write_12 : decode xnc_MO_write 12 = .ok (.iconst 4, 1) := by decide +kernel
theorem xnd_MO_write_13 : decode xnc_MO_write 13 = .ok (.if_icmp .gt 16, 3) := by decide +kernel
theorem xnd_MO_write_16 : decode xnc_MO_write 16 = .ok (.iload 4, 2) := by decide +kernel
theorem xnd_MO_write_18 : decode xnc_MO_write 18 = .ok (.ifCond .lt 11, 3) := by decide +kernel
theorem xnd_MO_write_21 : decode xnc_MO_write 21 = .ok (.iload 4, 2) := by decide +kernel
theorem xnd_MO_write_23 : decode xnc_MO_write 23 = .ok (.sipush 1000, 3) := by decide +kernel
theorem xnd_MO_write_26 : decode xnc_MO_write 26 = .ok (.if_icmp .le 5, 3) := by decide +kernel
theorem xnd_MO_write_29 : decode xnc_MO_write 29 = .ok (.iconst 0, 1) := by decide +kernel
theorem xnd_MO_write_30 : decode xnc_MO_write 30 = .ok (.ireturn, 1) := by decide +kernel
theorem xnd_MO_write_31 : decode xnc_MO_write 31 = .ok (.aload_n 0, 1) := by decide +kernel
theorem xnd_MO_write_32 : decode xnc_MO_write 32 = .ok (.iload_n 1, 1) := by decide +kernel
theorem xnd_MO_write_33 : decode xnc_MO_write 33 = .ok (.putfield 102, 3) := by decide +kernel
theorem xnd_MO_write_36 : decode xnc_MO_write 36 = .ok (.aload_n 0, 1) := by decide +kernel
theorem xnd_MO_write_37 : decode xnc_MO_write 37 = .ok (.iload_n 2, 1) := by decide +kernel
theorem xnd_MO_write_38 : decode xnc_MO_write 38 = .ok (.putfield 105, 3) := by decide +kernel
theorem xnd_MO_write_41 : decode xnc_MO_write 41 = .ok (.aload_n 0, 1) := by decide +kernel
theorem xnd_MO_write_42 : decode xnc_MO_write 42 = .ok (.iload_n 3, 1) := by decide +kernel
theorem xnd_MO_write_43 : decode xnc_MO_write 43 = .ok (.putfield 108, 3) := by decide +kernel
theorem xnd_MO_write_46 : decode xnc_MO_write 46 = .ok (.aload_n 0, 1) := by decide +kernel
theorem xnd_MO_write_47 : decode xnc_MO_write 47 = .ok (.iload 4, 2) := by decide +kernel
theorem xnd_MO_write_49 : decode xnc_MO_write 49 = .ok (.putfield 111, 3) := by decide +kernel
theorem xnd_MO_write_52 : decode xnc_MO_write 52 = .ok (.aload_n 0, 1) := by decide +kernel
theorem xnd_MO_write_53 : decode xnc_MO_write 53 = .ok (.iload 5, 2) := by decide +kernel
theorem xnd_MO_write_55 : decode xnc_MO_write 55 = .ok (.putfield 114, 3) := by decide +kernel
theorem xnd_MO_write_58 : decode xnc_MO_write 58 = .ok (.aload_n 0, 1) := by decide +kernel
theorem xnd_MO_write_59 : decode xnc_MO_write 59 = .ok (.iconst 1, 1) := by decide +kernel
theorem xnd_MO_write_60 : decode xnc_MO_write 60 = .ok (.putfield 99, 3) := by decide +kernel
theorem xnd_MO_write_63 : decode xnc_MO_write 63 = .ok (.iconst 1, 1) := by decide +kernel
theorem xnd_MO_write_64 : decode xnc_MO_write 64 = .ok (.ireturn, 1) := by decide +kernel
theorem xnd_MO_work_0 : decode xnc_MO_work 0 = .ok (.iload_n 1, 1) := by decide +kernel
theorem xnd_MO_work_1 : decode xnc_MO_work 1 = .ok (.iconst 1, 1) := by decide +kernel
theorem xnd_MO_work_2 : decode xnc_MO_work 2 = .ok (.if_icmp .lt 9, 3) := by decide +kernel
theorem xnd_MO_work_5 : decode xnc_MO_work 5 = .ok (.iload_n 1, 1) := by decide +kernel
theorem xnd_MO_work_6 : decode xnc_MO_work 6 = .ok (.bipush 50, 2) := by decide +kernel
theorem xnd_MO_work_8 : decode xnc_MO_work 8 = .ok (.if_icmp .le 5, 3) := by decide +kernel
theorem xnd_MO_work_11 : decode xnc_MO_work 11 = .ok (.iconst 0, 1) := by decide +kernel
theorem xnd_MO_work_12 : decode xnc_MO_work 12 = .ok (.ireturn, 1) := by decide +kernel
theorem xnd_MO_work_13 : decode xnc_MO_work 13 = .ok (.iconst 0, 1) := by decide +kernel
theorem xnd_MO_work_14 : decode xnc_MO_work 14 = .ok (.istore_n 2, 1) := by decide +kernel
theorem xnd_MO_work_15 : decode xnc_MO_work 15 = .ok (.iload_n 2, 1) := by decide +kernel
theorem xnd_MO_work_16 : decode xnc_MO_work 16 = .ok (.iload_n 1, 1) := by decide +kernel
theorem xnd_MO_work_17 : decode xnc_MO_work 17 = .ok (.if_icmp .ge 20, 3) := by decide +kernel
theorem xnd_MO_work_20 : decode xnc_MO_work 20 = .ok (.aload_n 0, 1) := by decide +kernel
theorem xnd_MO_work_21 : decode xnc_MO_work 21 = .ok (.getfield 99, 3) := by decide +kernel
theorem xnd_MO_work_24 : decode xnc_MO_work 24 = .ok (.ifCond .le 13, 3) := by decide +kernel
theorem xnd_MO_work_27 : decode xnc_MO_work 27 = .ok (.aload_n 0, 1) := by decide +kernel
theorem xnd_MO_work_28 : decode xnc_MO_work 28 = .ok (.invokevirtual 117, 3) := by decide +kernel
theorem xnd_MO_work_31 : decode xnc_MO_work 31 = .ok (.iinc 2 1, 3) := by decide +kernel
theorem xnd_MO_work_34 : decode xnc_MO_work 34 = .ok (.goto (-19), 3) := by decide +kernel
theorem xnd_MO_work_37 : decode xnc_MO_work 37 = .ok (.iload_n 2, 1) := by decide +kernel
theorem xnd_MO_work_38 : decode xnc_MO_work 38 = .ok (.ireturn, 1) := by decide +kernel
theorem xnd_MO_one_0 : decode xnc_MO_one 0 = .ok (.aload_n 0, 1) := by decide +kernel
theorem xnd_MO_one_1 : decode xnc_MO_one 1 = .ok (.getfield 99, 3) := by decide +kernel
theorem xnd_MO_one_4 : decode xnc_MO_one 4 = .ok (.tableswitch 141 1 7 #[44, 51, 88, 120, 127, 134, 134], 44) := by decide +kernel
theorem xnd_MO_one_48 : decode xnc_MO_one 48 = .ok (.aload_n 0, 1) := by decide +kernel
theorem xnd_MO_one_49 : decode xnc_MO_one 49 = .ok (.invokevirtual 120, 3) := by decide +kernel
theorem xnd_MO_one_52 : decode xnc_MO_one 52 = .ok (.goto 97, 3) := by decide +kernel
theorem xnd_MO_one_55 : decode xnc_MO_one 55 = .ok (.aload_n 0, 1) := by decide +kernel
theorem xnd_MO_one_56 : decode xnc_MO_one 56 = .ok (.getfield 32, 3) := by decide +kernel
theorem xnd_MO_one_59 : decode xnc_MO_one 59 = .ok (.aload_n 0, 1) := by decide +kernel
theorem xnd_MO_one_60 : decode xnc_MO_one 60 = .ok (.getfield 105, 3) := by decide +kernel
theorem xnd_MO_one_63 : decode xnc_MO_one 63 = .ok (.invokestatic 84, 3) := by decide +kernel
theorem xnd_MO_one_66 : decode xnc_MO_one 66 = .ok (.dup2, 1) := by decide +kernel
theorem xnd_MO_one_67 : decode xnc_MO_one 67 = .ok (.iaload, 1) := by decide +kernel
theorem xnd_MO_one_68 : decode xnc_MO_one 68 = .ok (.iconst 1, 1) := by decide +kernel
theorem xnd_MO_one_69 : decode xnc_MO_one 69 = .ok (.iadd, 1) := by decide +kernel
theorem xnd_MO_one_70 : decode xnc_MO_one 70 = .ok (.iastore, 1) := by decide +kernel
theorem xnd_MO_one_71 : decode xnc_MO_one 71 = .ok (.aload_n 0, 1) := by decide +kernel
theorem xnd_MO_one_72 : decode xnc_MO_one 72 = .ok (.getfield 20, 3) := by decide +kernel
theorem xnd_MO_one_75 : decode xnc_MO_one 75 = .ok (.aload_n 0, 1) := by decide +kernel
theorem xnd_MO_one_76 : decode xnc_MO_one 76 = .ok (.getfield 123, 3) := by decide +kernel
theorem xnd_MO_one_79 : decode xnc_MO_one 79 = .ok (.aload_n 0, 1) := by decide +kernel
theorem xnd_MO_one_80 : decode xnc_MO_one 80 = .ok (.getfield 108, 3) := by decide +kernel
theorem xnd_MO_one_83 : decode xnc_MO_one 83 = .ok (.iastore, 1) := by decide +kernel
theorem xnd_MO_one_84 : decode xnc_MO_one 84 = .ok (.aload_n 0, 1) := by decide +kernel
theorem xnd_MO_one_85 : decode xnc_MO_one 85 = .ok (.iconst 3, 1) := by decide +kernel
theorem xnd_MO_one_86 : decode xnc_MO_one 86 = .ok (.putfield 99, 3) := by decide +kernel
theorem xnd_MO_one_89 : decode xnc_MO_one 89 = .ok (.goto 60, 3) := by decide +kernel
theorem xnd_MO_one_92 : decode xnc_MO_one 92 = .ok (.aload_n 0, 1) := by decide +kernel
theorem xnd_MO_one_93 : decode xnc_MO_one 93 = .ok (.aload_n 0, 1) := by decide +kernel
theorem xnd_MO_one_94 : decode xnc_MO_one 94 = .ok (.getfield 123, 3) := by decide +kernel
theorem xnd_MO_one_97 : decode xnc_MO_one 97 = .ok (.invokevirtual 126, 3) := by decide +kernel
theorem xnd_MO_one_100 : decode xnc_MO_one 100 = .ok (.aload_n 0, 1) := by decide +kernel
theorem xnd_MO_one_101 : decode xnc_MO_one 101 = .ok (.getfield 32, 3) := by decide +kernel
theorem xnd_MO_one_104 : decode xnc_MO_one 104 = .ok (.aload_n 0, 1) := by decide +kernel
theorem xnd_MO_one_105 : decode xnc_MO_one 105 = .ok (.getfield 105, 3) := by decide +kernel
theorem xnd_MO_one_108 : decode xnc_MO_one 108 = .ok (.invokestatic 84, 3) := by decide +kernel
theorem xnd_MO_one_111 : decode xnc_MO_one 111 = .ok (.dup2, 1) := by decide +kernel
theorem xnd_MO_one_112 : decode xnc_MO_one 112 = .ok (.iaload, 1) := by decide +kernel
theorem xnd_MO_one_113 : decode xnc_MO_one 113 = .ok (.iconst 1, 1) := by decide +kernel
theorem xnd_MO_one_114 : decode xnc_MO_one 114 = .ok (.iadd, 1) := by decide +kernel
theorem xnd_MO_one_115 : decode xnc_MO_one 115 = .ok (.iastore, 1) := by decide +kernel
theorem xnd_MO_one_116 : decode xnc_MO_one 116 = .ok (.aload_n 0, 1) := by decide +kernel
theorem xnd_MO_one_117 : decode xnc_MO_one 117 = .ok (.iconst 1, 1) := by decide +kernel
theorem xnd_MO_one_118 : decode xnc_MO_one 118 = .ok (.invokevirtual 130, 3) := by decide +kernel
theorem xnd_MO_one_121 : decode xnc_MO_one 121 = .ok (.goto 28, 3) := by decide +kernel
theorem xnd_MO_one_124 : decode xnc_MO_one 124 = .ok (.aload_n 0, 1) := by decide +kernel
theorem xnd_MO_one_125 : decode xnc_MO_one 125 = .ok (.invokevirtual 133, 3) := by decide +kernel
theorem xnd_MO_one_128 : decode xnc_MO_one 128 = .ok (.goto 21, 3) := by decide +kernel
theorem xnd_MO_one_131 : decode xnc_MO_one 131 = .ok (.aload_n 0, 1) := by decide +kernel
theorem xnd_MO_one_132 : decode xnc_MO_one 132 = .ok (.invokevirtual 136, 3) := by decide +kernel
theorem xnd_MO_one_135 : decode xnc_MO_one 135 = .ok (.goto 14, 3) := by decide +kernel
theorem xnd_MO_one_138 : decode xnc_MO_one 138 = .ok (.aload_n 0, 1) := by decide +kernel
theorem xnd_MO_one_139 : decode xnc_MO_one 139 = .ok (.invokevirtual 139, 3) := by decide +kernel
theorem xnd_MO_one_142 : decode xnc_MO_one 142 = .ok (.goto 7, 3) := by decide +kernel
theorem xnd_MO_one_145 : decode xnc_MO_one 145 = .ok (.aload_n 0, 1) := by decide +kernel
theorem xnd_MO_one_146 : decode xnc_MO_one 146 = .ok (.invokevirtual 142, 3) := by decide +kernel
theorem xnd_MO_one_149 : decode xnc_MO_one 149 = .ok (.return_, 1) := by decide +kernel
theorem xnd_MO_begin_0 : decode xnc_MO_begin 0 = .ok (.aload_n 0, 1) := by decide +kernel
theorem xnd_MO_begin_1 : decode xnc_MO_begin 1 = .ok (.aload_n 0, 1) := by decide +kernel
theorem xnd_MO_begin_2 : decode xnc_MO_begin 2 = .ok (.getfield 105, 3) := by decide +kernel
theorem xnd_MO_begin_5 : decode xnc_MO_begin 5 = .ok (.invokevirtual 148, 3) := by decide +kernel
theorem xnd_MO_begin_8 : decode xnc_MO_begin 8 = .ok (.istore_n 1, 1) := by decide +kernel
theorem xnd_MO_begin_9 : decode xnc_MO_begin 9 = .ok (.aload_n 0, 1) := by decide +kernel
theorem xnd_MO_begin_10 : decode xnc_MO_begin 10 = .ok (.iload_n 1, 1) := by decide +kernel
theorem xnd_MO_begin_11 : decode xnc_MO_begin 11 = .ok (.ifCond .ge 7, 3) := by decide +kernel
theorem xnd_MO_begin_14 : decode xnc_MO_begin 14 = .ok (.iconst (-1), 1) := by decide +kernel
theorem xnd_MO_begin_15 : decode xnc_MO_begin 15 = .ok (.goto 11, 3) := by decide +kernel
theorem xnd_MO_begin_18 : decode xnc_MO_begin 18 = .ok (.aload_n 0, 1) := by decide +kernel
theorem xnd_MO_begin_19 : decode xnc_MO_begin 19 = .ok (.getfield 7, 3) := by decide +kernel
theorem xnd_MO_begin_22 : decode xnc_MO_begin 22 = .ok (.iload_n 1, 1) := by decide +kernel
theorem xnd_MO_begin_23 : decode xnc_MO_begin 23 = .ok (.iaload, 1) := by decide +kernel
theorem xnd_MO_begin_24 : decode xnc_MO_begin 24 = .ok (.iconst 1, 1) := by decide +kernel
theorem xnd_MO_begin_25 : decode xnc_MO_begin 25 = .ok (.isub, 1) := by decide +kernel
theorem xnd_MO_begin_26 : decode xnc_MO_begin 26 = .ok (.putfield 123, 3) := by decide +kernel
theorem xnd_MO_begin_29 : decode xnc_MO_begin 29 = .ok (.aload_n 0, 1) := by decide +kernel
theorem xnd_MO_begin_30 : decode xnc_MO_begin 30 = .ok (.getfield 123, 3) := by decide +kernel
theorem xnd_MO_begin_33 : decode xnc_MO_begin 33 = .ok (.ifCond .lt 42, 3) := by decide +kernel
theorem xnd_MO_begin_36 : decode xnc_MO_begin 36 = .ok (.aload_n 0, 1) := by decide +kernel
theorem xnd_MO_begin_37 : decode xnc_MO_begin 37 = .ok (.aload_n 0, 1) := by decide +kernel
theorem xnd_MO_begin_38 : decode xnc_MO_begin 38 = .ok (.getfield 26, 3) := by decide +kernel
theorem xnd_MO_begin_41 : decode xnc_MO_begin 41 = .ok (.aload_n 0, 1) := by decide +kernel
theorem xnd_MO_begin_42 : decode xnc_MO_begin 42 = .ok (.getfield 123, 3) := by decide +kernel
theorem xnd_MO_begin_45 : decode xnc_MO_begin 45 = .ok (.iaload, 1) := by decide +kernel
theorem xnd_MO_begin_46 : decode xnc_MO_begin 46 = .ok (.invokevirtual 151, 3) := by decide +kernel
theorem xnd_MO_begin_49 : decode xnc_MO_begin 49 = .ok (.ifCond .eq 26, 3) := by decide +kernel
theorem xnd_MO_begin_52 : decode xnc_MO_begin 52 = .ok (.aload_n 0, 1) := by decide +kernel
theorem xnd_MO_begin_53 : decode xnc_MO_begin 53 = .ok (.aload_n 0, 1) := by decide +kernel
theorem xnd_MO_begin_54 : decode xnc_MO_begin 54 = .ok (.getfield 123, 3) := by decide +kernel
theorem xnd_MO_begin_57 : decode xnc_MO_begin 57 = .ok (.invokevirtual 155, 3) := by decide +kernel
theorem xnd_MO_begin_60 : decode xnc_MO_begin 60 = .ok (.aload_n 0, 1) := by decide +kernel
theorem xnd_MO_begin_61 : decode xnc_MO_begin 61 = .ok (.dup, 1) := by decide +kernel
theorem xnd_MO_begin_62 : decode xnc_MO_begin 62 = .ok (.getfield 158, 3) := by decide +kernel
theorem xnd_MO_begin_65 : decode xnc_MO_begin 65 = .ok (.iconst 1, 1) := by decide +kernel
theorem xnd_MO_begin_66 : decode xnc_MO_begin 66 = .ok (.iadd, 1) := by decide +kernel
theorem xnd_MO_begin_67 : decode xnc_MO_begin 67 = .ok (.putfield 158, 3) := by decide +kernel
theorem xnd_MO_begin_70 : decode xnc_MO_begin 70 = .ok (.aload_n 0, 1) := by decide +kernel
theorem xnd_MO_begin_71 : decode xnc_MO_begin 71 = .ok (.iconst (-1), 1) := by decide +kernel
theorem xnd_MO_begin_72 : decode xnc_MO_begin 72 = .ok (.putfield 123, 3) := by decide +kernel
theorem xnd_MO_begin_75 : decode xnc_MO_begin 75 = .ok (.aload_n 0, 1) := by decide +kernel
theorem xnd_MO_begin_76 : decode xnc_MO_begin 76 = .ok (.getfield 123, 3) := by decide +kernel
theorem xnd_MO_begin_79 : decode xnc_MO_begin 79 = .ok (.ifCond .lt 7, 3) := by decide +kernel
theorem xnd_MO_begin_82 : decode xnc_MO_begin 82 = .ok (.iconst 1, 1) := by decide +kernel
theorem xnd_MO_begin_83 : decode xnc_MO_begin 83 = .ok (.goto 4, 3) := by decide +kernel
theorem xnd_MO_begin_86 : decode xnc_MO_begin 86 = .ok (.iconst 0, 1) := by decide +kernel
theorem xnd_MO_begin_87 : decode xnc_MO_begin 87 = .ok (.istore_n 2, 1) := by decide +kernel
theorem xnd_MO_begin_88 : decode xnc_MO_begin 88 = .ok (.aload_n 0, 1) := by decide +kernel
theorem xnd_MO_begin_89 : decode xnc_MO_begin 89 = .ok (.getfield 102, 3) := by decide +kernel
theorem xnd_MO_begin_92 : decode xnc_MO_begin 92 = .ok (.ifCond .ne 7, 3) := by decide +kernel
theorem xnd_MO_begin_95 : decode xnc_MO_begin 95 = .ok (.iload_n 2, 1) := by decide +kernel
theorem xnd_MO_begin_96 : decode xnc_MO_begin 96 = .ok (.ifCond .ne 43, 3) := by decide +kernel
theorem xnd_MO_begin_99 : decode xnc_MO_begin 99 = .ok (.aload_n 0, 1) := by decide +kernel
theorem xnd_MO_begin_100 : decode xnc_MO_begin 100 = .ok (.getfield 102, 3) := by decide +kernel
theorem xnd_MO_begin_103 : decode xnc_MO_begin 103 = .ok (.iconst 2, 1) := by decide +kernel
theorem xnd_MO_begin_104 : decode xnc_MO_begin 104 = .ok (.if_icmp .ne 7, 3) := by decide +kernel
theorem xnd_MO_begin_107 : decode xnc_MO_begin 107 = .ok (.iload_n 2, 1) := by decide +kernel
theorem xnd_MO_begin_108 : decode xnc_MO_begin 108 = .ok (.ifCond .ne 31, 3) := by decide +kernel
theorem xnd_MO_begin_111 : decode xnc_MO_begin 111 = .ok (.aload_n 0, 1) := by decide +kernel
theorem xnd_MO_begin_112 : decode xnc_MO_begin 112 = .ok (.getfield 102, 3) := by decide +kernel
theorem xnd_MO_begin_115 : decode xnc_MO_begin 115 = .ok (.iconst 3, 1) := by decide +kernel
theorem xnd_MO_begin_116 : decode xnc_MO_begin 116 = .ok (.if_icmp .ne 31, 3) := by decide +kernel
theorem xnd_MO_begin_119 : decode xnc_MO_begin 119 = .ok (.iload_n 2, 1) := by decide +kernel
theorem xnd_MO_begin_120 : decode xnc_MO_begin 120 = .ok (.ifCond .eq 27, 3) := by decide +kernel
theorem xnd_MO_begin_123 : decode xnc_MO_begin 123 = .ok (.aload_n 0, 1) := by decide +kernel
theorem xnd_MO_begin_124 : decode xnc_MO_begin 124 = .ok (.getfield 23, 3) := by decide +kernel
theorem xnd_MO_begin_127 : decode xnc_MO_begin 127 = .ok (.aload_n 0, 1) := by decide +kernel
theorem xnd_MO_begin_128 : decode xnc_MO_begin 128 = .ok (.getfield 123, 3) := by decide +kernel
theorem xnd_MO_begin_131 : decode xnc_MO_begin 131 = .ok (.iaload, 1) := by decide +kernel
theorem xnd_MO_begin_132 : decode xnc_MO_begin 132 = .ok (.aload_n 0, 1) := by decide +kernel
theorem xnd_MO_begin_133 : decode xnc_MO_begin 133 = .ok (.getfield 114, 3) := by decide +kernel
theorem xnd_MO_begin_136 : decode xnc_MO_begin 136 = .ok (.if_icmp .ne 11, 3) := by decide +kernel
theorem xnd_MO_begin_139 : decode xnc_MO_begin 139 = .ok (.aload_n 0, 1) := by decide +kernel
theorem xnd_MO_begin_140 : decode xnc_MO_begin 140 = .ok (.iconst 2, 1) := by decide +kernel
theorem xnd_MO_begin_141 : decode xnc_MO_begin 141 = .ok (.putfield 99, 3) := by decide +kernel
theorem xnd_MO_begin_144 : decode xnc_MO_begin 144 = .ok (.goto 103, 3) := by decide +kernel
theorem xnd_MO_begin_147 : decode xnc_MO_begin 147 = .ok (.aload_n 0, 1) := by decide +kernel
theorem xnd_MO_begin_148 : decode xnc_MO_begin 148 = .ok (.getfield 102, 3) := by decide +kernel
theorem xnd_MO_begin_151 : decode xnc_MO_begin 151 = .ok (.iconst 2, 1) := by decide +kernel
theorem xnd_MO_begin_152 : decode xnc_MO_begin 152 = .ok (.if_icmp .ge 38, 3) := by decide +kernel
theorem xnd_MO_begin_155 : decode xnc_MO_begin 155 = .ok (.iload_n 2, 1) := by decide +kernel
theorem xnd_MO_begin_156 : decode xnc_MO_begin 156 = .ok (.ifCond .eq 11, 3) := by decide +kernel
theorem xnd_MO_begin_159 : decode xnc_MO_begin 159 = .ok (.aload_n 0, 1) := by decide +kernel
theorem xnd_MO_begin_160 : decode xnc_MO_begin 160 = .ok (.iconst 2, 1) := by decide +kernel
theorem xnd_MO_begin_161 : decode xnc_MO_begin 161 = .ok (.invokevirtual 130, 3) := by decide +kernel
theorem xnd_MO_begin_164 : decode xnc_MO_begin 164 = .ok (.goto 83, 3) := by decide +kernel
theorem xnd_MO_begin_167 : decode xnc_MO_begin 167 = .ok (.aload_n 0, 1) := by decide +kernel
theorem xnd_MO_begin_168 : decode xnc_MO_begin 168 = .ok (.aload_n 0, 1) := by decide +kernel
theorem xnd_MO_begin_169 : decode xnc_MO_begin 169 = .ok (.invokevirtual 161, 3) := by decide +kernel
theorem xnd_MO_begin_172 : decode xnc_MO_begin 172 = .ok (.aload_n 0, 1) := by decide +kernel
theorem xnd_MO_begin_173 : decode xnc_MO_begin 173 = .ok (.getfield 66, 3) := by decide +kernel
theorem xnd_MO_begin_176 : decode xnc_MO_begin 176 = .ok (.if_icmp .ne 7, 3) := by decide +kernel
theorem xnd_MO_begin_179 : decode xnc_MO_begin 179 = .ok (.iconst 4, 1) := by decide +kernel
theorem xnd_MO_begin_180 : decode xnc_MO_begin 180 = .ok (.goto 4, 3) := by decide +kernel
theorem xnd_MO_begin_183 : decode xnc_MO_begin 183 = .ok (.iconst 5, 1) := by decide +kernel
theorem xnd_MO_begin_184 : decode xnc_MO_begin 184 = .ok (.putfield 99, 3) := by decide +kernel
theorem xnd_MO_begin_187 : decode xnc_MO_begin 187 = .ok (.goto 60, 3) := by decide +kernel
theorem xnd_MO_begin_190 : decode xnc_MO_begin 190 = .ok (.aload_n 0, 1) := by decide +kernel
theorem xnd_MO_begin_191 : decode xnc_MO_begin 191 = .ok (.getfield 102, 3) := by decide +kernel
theorem xnd_MO_begin_194 : decode xnc_MO_begin 194 = .ok (.iconst 2, 1) := by decide +kernel
theorem xnd_MO_begin_195 : decode xnc_MO_begin 195 = .ok (.if_icmp .ne 11, 3) := by decide +kernel
theorem xnd_MO_begin_198 : decode xnc_MO_begin 198 = .ok (.aload_n 0, 1) := by decide +kernel
theorem xnd_MO_begin_199 : decode xnc_MO_begin 199 = .ok (.iconst 2, 1) := by decide +kernel
theorem xnd_MO_begin_200 : decode xnc_MO_begin 200 = .ok (.invokevirtual 130, 3) := by decide +kernel
theorem xnd_MO_begin_203 : decode xnc_MO_begin 203 = .ok (.goto 44, 3) := by decide +kernel
theorem xnd_MO_begin_206 : decode xnc_MO_begin 206 = .ok (.iload_n 2, 1) := by decide +kernel
theorem xnd_MO_begin_207 : decode xnc_MO_begin 207 = .ok (.ifCond .ne 11, 3) := by decide +kernel
theorem xnd_MO_begin_210 : decode xnc_MO_begin 210 = .ok (.aload_n 0, 1) := by decide +kernel
theorem xnd_MO_begin_211 : decode xnc_MO_begin 211 = .ok (.iconst 4, 1) := by decide +kernel
theorem xnd_MO_begin_212 : decode xnc_MO_begin 212 = .ok (.invokevirtual 130, 3) := by decide +kernel
theorem xnd_MO_begin_215 : decode xnc_MO_begin 215 = .ok (.goto 32, 3) := by decide +kernel
theorem xnd_MO_begin_218 : decode xnc_MO_begin 218 = .ok (.aload_n 0, 1) := by decide +kernel
theorem xnd_MO_begin_219 : decode xnc_MO_begin 219 = .ok (.getfield 102, 3) := by decide +kernel
theorem xnd_MO_begin_222 : decode xnc_MO_begin 222 = .ok (.iconst 3, 1) := by decide +kernel
theorem xnd_MO_begin_223 : decode xnc_MO_begin 223 = .ok (.if_icmp .ne 11, 3) := by decide +kernel
theorem xnd_MO_begin_226 : decode xnc_MO_begin 226 = .ok (.aload_n 0, 1) := by decide +kernel
theorem xnd_MO_begin_227 : decode xnc_MO_begin 227 = .ok (.iconst 3, 1) := by decide +kernel
theorem xnd_MO_begin_228 : decode xnc_MO_begin 228 = .ok (.invokevirtual 130, 3) := by decide +kernel
theorem xnd_MO_begin_231 : decode xnc_MO_begin 231 = .ok (.goto 16, 3) := by decide +kernel
theorem xnd_MO_begin_234 : decode xnc_MO_begin 234 = .ok (.aload_n 0, 1) := by decide +kernel
theorem xnd_MO_begin_235 : decode xnc_MO_begin 235 = .ok (.aload_n 0, 1) := by decide +kernel
theorem xnd_MO_begin_236 : decode xnc_MO_begin 236 = .ok (.getfield 123, 3) := by decide +kernel
theorem xnd_MO_begin_239 : decode xnc_MO_begin 239 = .ok (.invokevirtual 155, 3) := by decide +kernel
theorem xnd_MO_begin_242 : decode xnc_MO_begin 242 = .ok (.aload_n 0, 1) := by decide +kernel
theorem xnd_MO_begin_243 : decode xnc_MO_begin 243 = .ok (.iconst 5, 1) := by decide +kernel
theorem xnd_MO_begin_244 : decode xnc_MO_begin 244 = .ok (.invokevirtual 130, 3) := by decide +kernel
theorem xnd_MO_begin_247 : decode xnc_MO_begin 247 = .ok (.return_, 1) := by decide +kernel
theorem xnd_MO_lookBoth_0 : decode xnc_MO_lookBoth 0 = .ok (.aload_n 0, 1) := by decide +kernel
theorem xnd_MO_lookBoth_1 : decode xnc_MO_lookBoth 1 = .ok (.iload_n 1, 1) := by decide +kernel
theorem xnd_MO_lookBoth_2 : decode xnc_MO_lookBoth 2 = .ok (.iconst 0, 1) := by decide +kernel
theorem xnd_MO_lookBoth_3 : decode xnc_MO_lookBoth 3 = .ok (.invokevirtual 93, 3) := by decide +kernel
theorem xnd_MO_lookBoth_6 : decode xnc_MO_lookBoth 6 = .ok (.istore_n 2, 1) := by decide +kernel
theorem xnd_MO_lookBoth_7 : decode xnc_MO_lookBoth 7 = .ok (.iload_n 2, 1) := by decide +kernel
theorem xnd_MO_lookBoth_8 : decode xnc_MO_lookBoth 8 = .ok (.ifCond .lt 7, 3) := by decide +kernel
theorem xnd_MO_lookBoth_11 : decode xnc_MO_lookBoth 11 = .ok (.iload_n 2, 1) := by decide +kernel
theorem xnd_MO_lookBoth_12 : decode xnc_MO_lookBoth 12 = .ok (.goto 9, 3) := by decide +kernel
theorem xnd_MO_lookBoth_15 : decode xnc_MO_lookBoth 15 = .ok (.aload_n 0, 1) := by decide +kernel
theorem xnd_MO_lookBoth_16 : decode xnc_MO_lookBoth 16 = .ok (.iload_n 1, 1) := by decide +kernel
theorem xnd_MO_lookBoth_17 : decode xnc_MO_lookBoth 17 = .ok (.iconst 1, 1) := by decide +kernel
theorem xnd_MO_lookBoth_18 : decode xnc_MO_lookBoth 18 = .ok (.invokevirtual 93, 3) := by decide +kernel
theorem xnd_MO_lookBoth_21 : decode xnc_MO_lookBoth 21 = .ok (.ireturn, 1) := by decide +kernel
theorem xnd_MO_look_0 : decode xnc_MO_look 0 = .ok (.aload_n 0, 1) := by decide +kernel
theorem xnd_MO_look_1 : decode xnc_MO_look 1 = .ok (.iload_n 1, 1) := by decide +kernel
theorem xnd_MO_look_2 : decode xnc_MO_look 2 = .ok (.iload_n 2, 1) := by decide +kernel
theorem xnd_MO_look_3 : decode xnc_MO_look 3 = .ok (.invokevirtual 87, 3) := by decide +kernel
theorem xnd_MO_look_6 : decode xnc_MO_look 6 = .ok (.istore_n 3, 1) := by decide +kernel
theorem xnd_MO_look_7 : decode xnc_MO_look 7 = .ok (.iload_n 1, 1) := by decide +kernel
theorem xnd_MO_look_8 : decode xnc_MO_look 8 = .ok (.iload_n 2, 1) := by decide +kernel
theorem xnd_MO_look_9 : decode xnc_MO_look 9 = .ok (.invokestatic 80, 3) := by decide +kernel
theorem xnd_MO_look_12 : decode xnc_MO_look 12 = .ok (.istore 4, 2) := by decide +kernel
theorem xnd_MO_look_14 : decode xnc_MO_look 14 = .ok (.iload_n 3, 1) := by decide +kernel
theorem xnd_MO_look_15 : decode xnc_MO_look 15 = .ok (.ifCond .ge 18, 3) := by decide +kernel
theorem xnd_MO_look_18 : decode xnc_MO_look 18 = .ok (.aload_n 0, 1) := by decide +kernel
theorem xnd_MO_look_19 : decode xnc_MO_look 19 = .ok (.getfield 69, 3) := by decide +kernel
theorem xnd_MO_look_22 : decode xnc_MO_look 22 = .ok (.iload 4, 2) := by decide +kernel
theorem xnd_MO_look_24 : decode xnc_MO_look 24 = .ok (.imul, 1) := by decide +kernel
theorem xnd_MO_look_25 : decode xnc_MO_look 25 = .ok (.aload_n 0, 1) := by decide +kernel
theorem xnd_MO_look_26 : decode xnc_MO_look 26 = .ok (.getfield 69, 3) := by decide +kernel
theorem xnd_MO_look_29 : decode xnc_MO_look 29 = .ok (.iadd, 1) := by decide +kernel
theorem xnd_MO_look_30 : decode xnc_MO_look 30 = .ok (.goto 4, 3) := by decide +kernel
theorem xnd_MO_look_33 : decode xnc_MO_look 33 = .ok (.iload_n 3, 1) := by decide +kernel
theorem xnd_MO_look_34 : decode xnc_MO_look 34 = .ok (.istore 5, 2) := by decide +kernel
theorem xnd_MO_look_36 : decode xnc_MO_look 36 = .ok (.aload_n 0, 1) := by decide +kernel
theorem xnd_MO_look_37 : decode xnc_MO_look 37 = .ok (.getfield 69, 3) := by decide +kernel
theorem xnd_MO_look_40 : decode xnc_MO_look 40 = .ok (.iload 4, 2) := by decide +kernel
theorem xnd_MO_look_42 : decode xnc_MO_look 42 = .ok (.imul, 1) := by decide +kernel
theorem xnd_MO_look_43 : decode xnc_MO_look 43 = .ok (.istore 6, 2) := by decide +kernel
theorem xnd_MO_look_45 : decode xnc_MO_look 45 = .ok (.iload 6, 2) := by decide +kernel
theorem xnd_MO_look_47 : decode xnc_MO_look 47 = .ok (.iload 5, 2) := by decide +kernel
theorem xnd_MO_look_49 : decode xnc_MO_look 49 = .ok (.if_icmp .ge 53, 3) := by decide +kernel
theorem xnd_MO_look_52 : decode xnc_MO_look 52 = .ok (.aload_n 0, 1) := by decide +kernel
theorem xnd_MO_look_53 : decode xnc_MO_look 53 = .ok (.getfield 7, 3) := by decide +kernel
theorem xnd_MO_look_56 : decode xnc_MO_look 56 = .ok (.iload 6, 2) := by decide +kernel
theorem xnd_MO_look_58 : decode xnc_MO_look 58 = .ok (.iaload, 1) := by decide +kernel
theorem xnd_MO_look_59 : decode xnc_MO_look 59 = .ok (.ifCond .le 37, 3) := by decide +kernel
theorem xnd_MO_look_62 : decode xnc_MO_look 62 = .ok (.aload_n 0, 1) := by decide +kernel
theorem xnd_MO_look_63 : decode xnc_MO_look 63 = .ok (.getfield 17, 3) := by decide +kernel
theorem xnd_MO_look_66 : decode xnc_MO_look 66 = .ok (.aload_n 0, 1) := by decide +kernel
theorem xnd_MO_look_67 : decode xnc_MO_look 67 = .ok (.getfield 7, 3) := by decide +kernel
theorem xnd_MO_look_70 : decode xnc_MO_look 70 = .ok (.iload 6, 2) := by decide +kernel
theorem xnd_MO_look_72 : decode xnc_MO_look 72 = .ok (.iaload, 1) := by decide +kernel
theorem xnd_MO_look_73 : decode xnc_MO_look 73 = .ok (.iconst 1, 1) := by decide +kernel
theorem xnd_MO_look_74 : decode xnc_MO_look 74 = .ok (.isub, 1) := by decide +kernel
theorem xnd_MO_look_75 : decode xnc_MO_look 75 = .ok (.iaload, 1) := by decide +kernel
theorem xnd_MO_look_76 : decode xnc_MO_look 76 = .ok (.invokestatic 77, 3) := by decide +kernel
theorem xnd_MO_look_79 : decode xnc_MO_look 79 = .ok (.iload_n 1, 1) := by decide +kernel
theorem xnd_MO_look_80 : decode xnc_MO_look 80 = .ok (.invokestatic 77, 3) := by decide +kernel
theorem xnd_MO_look_83 : decode xnc_MO_look 83 = .ok (.if_icmp .ne 13, 3) := by decide +kernel
theorem xnd_MO_look_86 : decode xnc_MO_look 86 = .ok (.aload_n 0, 1) := by decide +kernel
theorem xnd_MO_look_87 : decode xnc_MO_look 87 = .ok (.dup, 1) := by decide +kernel
theorem xnd_MO_look_88 : decode xnc_MO_look 88 = .ok (.getfield 90, 3) := by decide +kernel
theorem xnd_MO_look_91 : decode xnc_MO_look 91 = .ok (.iconst 1, 1) := by decide +kernel
theorem xnd_MO_look_92 : decode xnc_MO_look 92 = .ok (.iadd, 1) := by decide +kernel
theorem xnd_MO_look_93 : decode xnc_MO_look 93 = .ok (.putfield 90, 3) := by decide +kernel
theorem xnd_MO_look_96 : decode xnc_MO_look 96 = .ok (.iinc 6 1, 3) := by decide +kernel
theorem xnd_MO_look_99 : decode xnc_MO_look 99 = .ok (.goto (-54), 3) := by decide +kernel
theorem xnd_MO_look_102 : decode xnc_MO_look 102 = .ok (.iload_n 3, 1) := by decide +kernel
theorem xnd_MO_look_103 : decode xnc_MO_look 103 = .ok (.ireturn, 1) := by decide +kernel
theorem xnd_MO_over_0 : decode xnc_MO_over 0 = .ok (.iload_n 1, 1) := by decide +kernel
theorem xnd_MO_over_1 : decode xnc_MO_over 1 = .ok (.ifCond .eq 15, 3) := by decide +kernel
theorem xnd_MO_over_4 : decode xnc_MO_over 4 = .ok (.iload_n 1, 1) := by decide +kernel
theorem xnd_MO_over_5 : decode xnc_MO_over 5 = .ok (.aload_n 0, 1) := by decide +kernel
theorem xnd_MO_over_6 : decode xnc_MO_over 6 = .ok (.getfield 96, 3) := by decide +kernel
theorem xnd_MO_over_9 : decode xnc_MO_over 9 = .ok (.if_icmp .gt 7, 3) := by decide +kernel
theorem xnd_MO_over_12 : decode xnc_MO_over 12 = .ok (.iconst 1, 1) := by decide +kernel
theorem xnd_MO_over_13 : decode xnc_MO_over 13 = .ok (.goto 4, 3) := by decide +kernel
theorem xnd_MO_over_16 : decode xnc_MO_over 16 = .ok (.iconst 0, 1) := by decide +kernel
theorem xnd_MO_over_17 : decode xnc_MO_over 17 = .ok (.ireturn, 1) := by decide +kernel
theorem xnd_MO_remove_0 : decode xnc_MO_remove 0 = .ok (.iconst 0, 1) := by decide +kernel
theorem xnd_MO_remove_1 : decode xnc_MO_remove 1 = .ok (.istore_n 2, 1) := by decide +kernel
theorem xnd_MO_remove_2 : decode xnc_MO_remove 2 = .ok (.iload_n 2, 1) := by decide +kernel
theorem xnd_MO_remove_3 : decode xnc_MO_remove 3 = .ok (.bipush 8, 2) := by decide +kernel
theorem xnd_MO_remove_5 : decode xnc_MO_remove 5 = .ok (.aload_n 0, 1) := by decide +kernel
theorem xnd_MO_remove_6 : decode xnc_MO_remove 6 = .ok (.getfield 69, 3) := by decide +kernel
theorem xnd_MO_remove_9 : decode xnc_MO_remove 9 = .ok (.imul, 1) := by decide +kernel
theorem xnd_MO_remove_10 : decode xnc_MO_remove 10 = .ok (.if_icmp .ge 37, 3) := by decide +kernel
theorem xnd_MO_remove_13 : decode xnc_MO_remove 13 = .ok (.aload_n 0, 1) := by decide +kernel
theorem xnd_MO_remove_14 : decode xnc_MO_remove 14 = .ok (.getfield 7, 3) := by decide +kernel
theorem xnd_MO_remove_17 : decode xnc_MO_remove 17 = .ok (.iload_n 2, 1) := by decide +kernel
theorem xnd_MO_remove_18 : decode xnc_MO_remove 18 = .ok (.aload_n 0, 1) := by decide +kernel
theorem xnd_MO_remove_19 : decode xnc_MO_remove 19 = .ok (.getfield 7, 3) := by decide +kernel
theorem xnd_MO_remove_22 : decode xnc_MO_remove 22 = .ok (.iload_n 2, 1) := by decide +kernel
theorem xnd_MO_remove_23 : decode xnc_MO_remove 23 = .ok (.iaload, 1) := by decide +kernel
theorem xnd_MO_remove_24 : decode xnc_MO_remove 24 = .ok (.iload_n 1, 1) := by decide +kernel
theorem xnd_MO_remove_25 : decode xnc_MO_remove 25 = .ok (.iconst 1, 1) := by decide +kernel
theorem xnd_MO_remove_26 : decode xnc_MO_remove 26 = .ok (.iadd, 1) := by decide +kernel
theorem xnd_MO_remove_27 : decode xnc_MO_remove 27 = .ok (.if_icmp .ne 7, 3) := by decide +kernel
theorem xnd_MO_remove_30 : decode xnc_MO_remove 30 = .ok (.iconst 0, 1) := by decide +kernel
theorem xnd_MO_remove_31 : decode xnc_MO_remove 31 = .ok (.goto 9, 3) := by decide +kernel
theorem xnd_MO_remove_34 : decode xnc_MO_remove 34 = .ok (.aload_n 0, 1) := by decide +kernel
theorem xnd_MO_remove_35 : decode xnc_MO_remove 35 = .ok (.getfield 7, 3) := by decide +kernel
theorem xnd_MO_remove_38 : decode xnc_MO_remove 38 = .ok (.iload_n 2, 1) := by decide +kernel
theorem xnd_MO_remove_39 : decode xnc_MO_remove 39 = .ok (.iaload, 1) := by decide +kernel
theorem xnd_MO_remove_40 : decode xnc_MO_remove 40 = .ok (.iastore, 1) := by decide +kernel
theorem xnd_MO_remove_41 : decode xnc_MO_remove 41 = .ok (.iinc 2 1, 3) := by decide +kernel
theorem xnd_MO_remove_44 : decode xnc_MO_remove 44 = .ok (.goto (-42), 3) := by decide +kernel
theorem xnd_MO_remove_47 : decode xnc_MO_remove 47 = .ok (.aload_n 0, 1) := by decide +kernel
theorem xnd_MO_remove_48 : decode xnc_MO_remove 48 = .ok (.getfield 13, 3) := by decide +kernel
theorem xnd_MO_remove_51 : decode xnc_MO_remove 51 = .ok (.iload_n 1, 1) := by decide +kernel
theorem xnd_MO_remove_52 : decode xnc_MO_remove 52 = .ok (.iconst 0, 1) := by decide +kernel
theorem xnd_MO_remove_53 : decode xnc_MO_remove 53 = .ok (.bastore, 1) := by decide +kernel
theorem xnd_MO_remove_54 : decode xnc_MO_remove 54 = .ok (.aload_n 0, 1) := by decide +kernel
theorem xnd_MO_remove_55 : decode xnc_MO_remove 55 = .ok (.getfield 32, 3) := by decide +kernel
theorem xnd_MO_remove_58 : decode xnc_MO_remove 58 = .ok (.aload_n 0, 1) := by decide +kernel
theorem xnd_MO_remove_59 : decode xnc_MO_remove 59 = .ok (.getfield 17, 3) := by decide +kernel
theorem xnd_MO_remove_62 : decode xnc_MO_remove 62 = .ok (.iload_n 1, 1) := by decide +kernel
theorem xnd_MO_remove_63 : decode xnc_MO_remove 63 = .ok (.iaload, 1) := by decide +kernel
theorem xnd_MO_remove_64 : decode xnc_MO_remove 64 = .ok (.invokestatic 84, 3) := by decide +kernel
theorem xnd_MO_remove_67 : decode xnc_MO_remove 67 = .ok (.dup2, 1) := by decide +kernel
theorem xnd_MO_remove_68 : decode xnc_MO_remove 68 = .ok (.iaload, 1) := by decide +kernel
theorem xnd_MO_remove_69 : decode xnc_MO_remove 69 = .ok (.iconst 2, 1) := by decide +kernel
theorem xnd_MO_remove_70 : decode xnc_MO_remove 70 = .ok (.iadd, 1) := by decide +kernel
theorem xnd_MO_remove_71 : decode xnc_MO_remove 71 = .ok (.iastore, 1) := by decide +kernel
theorem xnd_MO_remove_72 : decode xnc_MO_remove 72 = .ok (.return_, 1) := by decide +kernel
theorem xnd_MO_finish_0 : decode xnc_MO_finish 0 = .ok (.aload_n 0, 1) := by decide +kernel
theorem xnd_MO_finish_1 : decode xnc_MO_finish 1 = .ok (.iconst 0, 1) := by decide +kernel
theorem xnd_MO_finish_2 : decode xnc_MO_finish 2 = .ok (.putfield 99, 3) := by decide +kernel
theorem xnd_MO_finish_5 : decode xnc_MO_finish 5 = .ok (.aload_n 0, 1) := by decide +kernel
theorem xnd_MO_finish_6 : decode xnc_MO_finish 6 = .ok (.iload_n 1, 1) := by decide +kernel
theorem xnd_MO_finish_7 : decode xnc_MO_finish 7 = .ok (.putfield 35, 3) := by decide +kernel
theorem xnd_MO_finish_10 : decode xnc_MO_finish 10 = .ok (.return_, 1) := by decide +kernel
theorem xnd_MO_many_0 : decode xnc_MO_many 0 = .ok (.iconst 0, 1) := by decide +kernel
theorem xnd_MO_many_1 : decode xnc_MO_many 1 = .ok (.istore_n 1, 1) := by decide +kernel
theorem xnd_MO_many_2 : decode xnc_MO_many 2 = .ok (.iconst 0, 1) := by decide +kernel
theorem xnd_MO_many_3 : decode xnc_MO_many 3 = .ok (.istore_n 2, 1) := by decide +kernel
theorem xnd_MO_many_4 : decode xnc_MO_many 4 = .ok (.iload_n 2, 1) := by decide +kernel
theorem xnd_MO_many_5 : decode xnc_MO_many 5 = .ok (.aload_n 0, 1) := by decide +kernel
theorem xnd_MO_many_6 : decode xnc_MO_many 6 = .ok (.getfield 66, 3) := by decide +kernel
theorem xnd_MO_many_9 : decode xnc_MO_many 9 = .ok (.if_icmp .ge 26, 3) := by decide +kernel
theorem xnd_MO_many_12 : decode xnc_MO_many 12 = .ok (.iload_n 1, 1) := by decide +kernel
theorem xnd_MO_many_13 : decode xnc_MO_many 13 = .ok (.aload_n 0, 1) := by decide +kernel
theorem xnd_MO_many_14 : decode xnc_MO_many 14 = .ok (.getfield 13, 3) := by decide +kernel
theorem xnd_MO_many_17 : decode xnc_MO_many 17 = .ok (.iload_n 2, 1) := by decide +kernel
theorem xnd_MO_many_18 : decode xnc_MO_many 18 = .ok (.baload, 1) := by decide +kernel
theorem xnd_MO_many_19 : decode xnc_MO_many 19 = .ok (.ifCond .eq 7, 3) := by decide +kernel
theorem xnd_MO_many_22 : decode xnc_MO_many 22 = .ok (.iconst 1, 1) := by decide +kernel
theorem xnd_MO_many_23 : decode xnc_MO_many 23 = .ok (.goto 4, 3) := by decide +kernel
theorem xnd_MO_many_26 : decode xnc_MO_many 26 = .ok (.iconst 0, 1) := by decide +kernel
theorem xnd_MO_many_27 : decode xnc_MO_many 27 = .ok (.iadd, 1) := by decide +kernel
theorem xnd_MO_many_28 : decode xnc_MO_many 28 = .ok (.istore_n 1, 1) := by decide +kernel
theorem xnd_MO_many_29 : decode xnc_MO_many 29 = .ok (.iinc 2 1, 3) := by decide +kernel
theorem xnd_MO_many_32 : decode xnc_MO_many 32 = .ok (.goto (-28), 3) := by decide +kernel
theorem xnd_MO_many_35 : decode xnc_MO_many 35 = .ok (.iload_n 1, 1) := by decide +kernel
theorem xnd_MO_many_36 : decode xnc_MO_many 36 = .ok (.ireturn, 1) := by decide +kernel
theorem xnd_MO_stamp_0 : decode xnc_MO_stamp 0 = .ok (.aload_n 0, 1) := by decide +kernel
theorem xnd_MO_stamp_1 : decode xnc_MO_stamp 1 = .ok (.dup, 1) := by decide +kernel
theorem xnd_MO_stamp_2 : decode xnc_MO_stamp 2 = .ok (.getfield 145, 3) := by decide +kernel
theorem xnd_MO_stamp_5 : decode xnc_MO_stamp 5 = .ok (.iconst 1, 1) := by decide +kernel
theorem xnd_MO_stamp_6 : decode xnc_MO_stamp 6 = .ok (.iadd, 1) := by decide +kernel
theorem xnd_MO_stamp_7 : decode xnc_MO_stamp 7 = .ok (.putfield 145, 3) := by decide +kernel
theorem xnd_MO_stamp_10 : decode xnc_MO_stamp 10 = .ok (.aload_n 0, 1) := by decide +kernel
theorem xnd_MO_stamp_11 : decode xnc_MO_stamp 11 = .ok (.getfield 23, 3) := by decide +kernel
theorem xnd_MO_stamp_14 : decode xnc_MO_stamp 14 = .ok (.iload_n 1, 1) := by decide +kernel
theorem xnd_MO_stamp_15 : decode xnc_MO_stamp 15 = .ok (.aload_n 0, 1) := by decide +kernel
theorem xnd_MO_stamp_16 : decode xnc_MO_stamp 16 = .ok (.getfield 145, 3) := by decide +kernel
theorem xnd_MO_stamp_19 : decode xnc_MO_stamp 19 = .ok (.iastore, 1) := by decide +kernel
theorem xnd_MO_stamp_20 : decode xnc_MO_stamp 20 = .ok (.aload_n 0, 1) := by decide +kernel
theorem xnd_MO_stamp_21 : decode xnc_MO_stamp 21 = .ok (.getfield 26, 3) := by decide +kernel
theorem xnd_MO_stamp_24 : decode xnc_MO_stamp 24 = .ok (.iload_n 1, 1) := by decide +kernel
theorem xnd_MO_stamp_25 : decode xnc_MO_stamp 25 = .ok (.aload_n 0, 1) := by decide +kernel
theorem xnd_MO_stamp_26 : decode xnc_MO_stamp 26 = .ok (.getfield 111, 3) := by decide +kernel
theorem xnd_MO_stamp_29 : decode xnc_MO_stamp 29 = .ok (.ifCond .ne 7, 3) := by decide +kernel
theorem xnd_MO_stamp_32 : decode xnc_MO_stamp 32 = .ok (.iconst 0, 1) := by decide +kernel
theorem xnd_MO_stamp_33 : decode xnc_MO_stamp 33 = .ok (.goto 12, 3) := by decide +kernel
theorem xnd_MO_stamp_36 : decode xnc_MO_stamp 36 = .ok (.aload_n 0, 1) := by decide +kernel
theorem xnd_MO_stamp_37 : decode xnc_MO_stamp 37 = .ok (.getfield 96, 3) := by decide +kernel
theorem xnd_MO_stamp_40 : decode xnc_MO_stamp 40 = .ok (.aload_n 0, 1) := by decide +kernel
theorem xnd_MO_stamp_41 : decode xnc_MO_stamp 41 = .ok (.getfield 111, 3) := by decide +kernel
theorem xnd_MO_stamp_44 : decode xnc_MO_stamp 44 = .ok (.iadd, 1) := by decide +kernel
theorem xnd_MO_stamp_45 : decode xnc_MO_stamp 45 = .ok (.iastore, 1) := by decide +kernel
theorem xnd_MO_stamp_46 : decode xnc_MO_stamp 46 = .ok (.return_, 1) := by decide +kernel
theorem xnd_MO_evict_0 : decode xnc_MO_evict 0 = .ok (.iconst 0, 1) := by decide +kernel
theorem xnd_MO_evict_1 : decode xnc_MO_evict 1 = .ok (.istore_n 1, 1) := by decide +kernel
theorem xnd_MO_evict_2 : decode xnc_MO_evict 2 = .ok (.iload_n 1, 1) := by decide +kernel
theorem xnd_MO_evict_3 : decode xnc_MO_evict 3 = .ok (.aload_n 0, 1) := by decide +kernel
theorem xnd_MO_evict_4 : decode xnc_MO_evict 4 = .ok (.getfield 66, 3) := by decide +kernel
theorem xnd_MO_evict_7 : decode xnc_MO_evict 7 = .ok (.if_icmp .gt 46, 3) := by decide +kernel
theorem xnd_MO_evict_10 : decode xnc_MO_evict 10 = .ok (.aload_n 0, 1) := by decide +kernel
theorem xnd_MO_evict_11 : decode xnc_MO_evict 11 = .ok (.getfield 29, 3) := by decide +kernel
theorem xnd_MO_evict_14 : decode xnc_MO_evict 14 = .ok (.aload_n 0, 1) := by decide +kernel
theorem xnd_MO_evict_15 : decode xnc_MO_evict 15 = .ok (.getfield 165, 3) := by decide +kernel
theorem xnd_MO_evict_18 : decode xnc_MO_evict 18 = .ok (.baload, 1) := by decide +kernel
theorem xnd_MO_evict_19 : decode xnc_MO_evict 19 = .ok (.ifCond .eq 34, 3) := by decide +kernel
theorem xnd_MO_evict_22 : decode xnc_MO_evict 22 = .ok (.aload_n 0, 1) := by decide +kernel
theorem xnd_MO_evict_23 : decode xnc_MO_evict 23 = .ok (.getfield 29, 3) := by decide +kernel
theorem xnd_MO_evict_26 : decode xnc_MO_evict 26 = .ok (.aload_n 0, 1) := by decide +kernel
theorem xnd_MO_evict_27 : decode xnc_MO_evict 27 = .ok (.getfield 165, 3) := by decide +kernel
theorem xnd_MO_evict_30 : decode xnc_MO_evict 30 = .ok (.iconst 0, 1) := by decide +kernel
theorem xnd_MO_evict_31 : decode xnc_MO_evict 31 = .ok (.bastore, 1) := by decide +kernel
theorem xnd_MO_evict_32 : decode xnc_MO_evict 32 = .ok (.aload_n 0, 1) := by decide +kernel
theorem xnd_MO_evict_33 : decode xnc_MO_evict 33 = .ok (.aload_n 0, 1) := by decide +kernel
theorem xnd_MO_evict_34 : decode xnc_MO_evict 34 = .ok (.getfield 165, 3) := by decide +kernel
theorem xnd_MO_evict_37 : decode xnc_MO_evict 37 = .ok (.iconst 1, 1) := by decide +kernel
theorem xnd_MO_evict_38 : decode xnc_MO_evict 38 = .ok (.iadd, 1) := by decide +kernel
theorem xnd_MO_evict_39 : decode xnc_MO_evict 39 = .ok (.aload_n 0, 1) := by decide +kernel
theorem xnd_MO_evict_40 : decode xnc_MO_evict 40 = .ok (.getfield 66, 3) := by decide +kernel
theorem xnd_MO_evict_43 : decode xnc_MO_evict 43 = .ok (.irem, 1) := by decide +kernel
theorem xnd_MO_evict_44 : decode xnc_MO_evict 44 = .ok (.putfield 165, 3) := by decide +kernel
theorem xnd_MO_evict_47 : decode xnc_MO_evict 47 = .ok (.iinc 1 1, 3) := by decide +kernel
theorem xnd_MO_evict_50 : decode xnc_MO_evict 50 = .ok (.goto (-48), 3) := by decide +kernel
theorem xnd_MO_evict_53 : decode xnc_MO_evict 53 = .ok (.aload_n 0, 1) := by decide +kernel
theorem xnd_MO_evict_54 : decode xnc_MO_evict 54 = .ok (.aload_n 0, 1) := by decide +kernel
theorem xnd_MO_evict_55 : decode xnc_MO_evict 55 = .ok (.getfield 165, 3) := by decide +kernel
theorem xnd_MO_evict_58 : decode xnc_MO_evict 58 = .ok (.invokevirtual 155, 3) := by decide +kernel
theorem xnd_MO_evict_61 : decode xnc_MO_evict 61 = .ok (.aload_n 0, 1) := by decide +kernel
theorem xnd_MO_evict_62 : decode xnc_MO_evict 62 = .ok (.aload_n 0, 1) := by decide +kernel
theorem xnd_MO_evict_63 : decode xnc_MO_evict 63 = .ok (.getfield 165, 3) := by decide +kernel
theorem xnd_MO_evict_66 : decode xnc_MO_evict 66 = .ok (.iconst 1, 1) := by decide +kernel
theorem xnd_MO_evict_67 : decode xnc_MO_evict 67 = .ok (.iadd, 1) := by decide +kernel
theorem xnd_MO_evict_68 : decode xnc_MO_evict 68 = .ok (.aload_n 0, 1) := by decide +kernel
theorem xnd_MO_evict_69 : decode xnc_MO_evict 69 = .ok (.getfield 66, 3) := by decide +kernel
theorem xnd_MO_evict_72 : decode xnc_MO_evict 72 = .ok (.irem, 1) := by decide +kernel
theorem xnd_MO_evict_73 : decode xnc_MO_evict 73 = .ok (.putfield 165, 3) := by decide +kernel
theorem xnd_MO_evict_76 : decode xnc_MO_evict 76 = .ok (.aload_n 0, 1) := by decide +kernel
theorem xnd_MO_evict_77 : decode xnc_MO_evict 77 = .ok (.dup, 1) := by decide +kernel
theorem xnd_MO_evict_78 : decode xnc_MO_evict 78 = .ok (.getfield 168, 3) := by decide +kernel
theorem xnd_MO_evict_81 : decode xnc_MO_evict 81 = .ok (.iconst 1, 1) := by decide +kernel
theorem xnd_MO_evict_82 : decode xnc_MO_evict 82 = .ok (.iadd, 1) := by decide +kernel
theorem xnd_MO_evict_83 : decode xnc_MO_evict 83 = .ok (.putfield 168, 3) := by decide +kernel
theorem xnd_MO_evict_86 : decode xnc_MO_evict 86 = .ok (.aload_n 0, 1) := by decide +kernel
theorem xnd_MO_evict_87 : decode xnc_MO_evict 87 = .ok (.iconst 5, 1) := by decide +kernel
theorem xnd_MO_evict_88 : decode xnc_MO_evict 88 = .ok (.putfield 99, 3) := by decide +kernel
theorem xnd_MO_evict_91 : decode xnc_MO_evict 91 = .ok (.return_, 1) := by decide +kernel
theorem xnd_MO_seek_0 : decode xnc_MO_seek 0 = .ok (.iconst 2, 1) := by decide +kernel
theorem xnd_MO_seek_1 : decode xnc_MO_seek 1 = .ok (.aload_n 0, 1) := by decide +kernel
theorem xnd_MO_seek_2 : decode xnc_MO_seek 2 = .ok (.getfield 69, 3) := by decide +kernel
theorem xnd_MO_seek_5 : decode xnc_MO_seek 5 = .ok (.imul, 1) := by decide +kernel
theorem xnd_MO_seek_6 : decode xnc_MO_seek 6 = .ok (.istore_n 1, 1) := by decide +kernel
theorem xnd_MO_seek_7 : decode xnc_MO_seek 7 = .ok (.iconst 0, 1) := by decide +kernel
theorem xnd_MO_seek_8 : decode xnc_MO_seek 8 = .ok (.istore_n 2, 1) := by decide +kernel
theorem xnd_MO_seek_9 : decode xnc_MO_seek 9 = .ok (.iload_n 2, 1) := by decide +kernel
theorem xnd_MO_seek_10 : decode xnc_MO_seek 10 = .ok (.iconst 4, 1) := by decide +kernel
theorem xnd_MO_seek_11 : decode xnc_MO_seek 11 = .ok (.if_icmp .gt 66, 3) := by decide +kernel
theorem xnd_MO_seek_14 : decode xnc_MO_seek 14 = .ok (.iconst 0, 1) := by decide +kernel
theorem xnd_MO_seek_15 : decode xnc_MO_seek 15 = .ok (.istore_n 3, 1) := by decide +kernel
theorem xnd_MO_seek_16 : decode xnc_MO_seek 16 = .ok (.iload_n 3, 1) := by decide +kernel
theorem xnd_MO_seek_17 : decode xnc_MO_seek 17 = .ok (.iload_n 1, 1) := by decide +kernel
theorem xnd_MO_seek_18 : decode xnc_MO_seek 18 = .ok (.if_icmp .ge 46, 3) := by decide +kernel
theorem xnd_MO_seek_21 : decode xnc_MO_seek 21 = .ok (.aload_n 0, 1) := by decide +kernel
theorem xnd_MO_seek_22 : decode xnc_MO_seek 22 = .ok (.iload_n 3, 1) := by decide +kernel
theorem xnd_MO_seek_23 : decode xnc_MO_seek 23 = .ok (.iload_n 2, 1) := by decide +kernel
theorem xnd_MO_seek_24 : decode xnc_MO_seek 24 = .ok (.invokevirtual 171, 3) := by decide +kernel
theorem xnd_MO_seek_27 : decode xnc_MO_seek 27 = .ok (.ifCond .eq 31, 3) := by decide +kernel
theorem xnd_MO_seek_30 : decode xnc_MO_seek 30 = .ok (.aload_n 0, 1) := by decide +kernel
theorem xnd_MO_seek_31 : decode xnc_MO_seek 31 = .ok (.iload_n 2, 1) := by decide +kernel
theorem xnd_MO_seek_32 : decode xnc_MO_seek 32 = .ok (.putfield 175, 3) := by decide +kernel
theorem xnd_MO_seek_35 : decode xnc_MO_seek 35 = .ok (.aload_n 0, 1) := by decide +kernel
theorem xnd_MO_seek_36 : decode xnc_MO_seek 36 = .ok (.iload_n 2, 1) := by decide +kernel
theorem xnd_MO_seek_37 : decode xnc_MO_seek 37 = .ok (.iconst 1, 1) := by decide +kernel
theorem xnd_MO_seek_38 : decode xnc_MO_seek 38 = .ok (.isub, 1) := by decide +kernel
theorem xnd_MO_seek_39 : decode xnc_MO_seek 39 = .ok (.putfield 178, 3) := by decide +kernel
theorem xnd_MO_seek_42 : decode xnc_MO_seek 42 = .ok (.aload_n 0, 1) := by decide +kernel
theorem xnd_MO_seek_43 : decode xnc_MO_seek 43 = .ok (.iload_n 2, 1) := by decide +kernel
theorem xnd_MO_seek_44 : decode xnc_MO_seek 44 = .ok (.ifCond .le 8, 3) := by decide +kernel
theorem xnd_MO_seek_47 : decode xnc_MO_seek 47 = .ok (.bipush 6, 2) := by decide +kernel
theorem xnd_MO_seek_49 : decode xnc_MO_seek 49 = .ok (.goto 5, 3) := by decide +kernel
theorem xnd_MO_seek_52 : decode xnc_MO_seek 52 = .ok (.bipush 8, 2) := by decide +kernel
theorem xnd_MO_seek_54 : decode xnc_MO_seek 54 = .ok (.putfield 99, 3) := by decide +kernel
theorem xnd_MO_seek_57 : decode xnc_MO_seek 57 = .ok (.return_, 1) := by decide +kernel
theorem xnd_MO_seek_58 : decode xnc_MO_seek 58 = .ok (.iinc 3 1, 3) := by decide +kernel
theorem xnd_MO_seek_61 : decode xnc_MO_seek 61 = .ok (.goto (-45), 3) := by decide +kernel
theorem xnd_MO_seek_64 : decode xnc_MO_seek 64 = .ok (.iload_n 1, 1) := by decide +kernel
theorem xnd_MO_seek_65 : decode xnc_MO_seek 65 = .ok (.aload_n 0, 1) := by decide +kernel
theorem xnd_MO_seek_66 : decode xnc_MO_seek 66 = .ok (.getfield 69, 3) := by decide +kernel
theorem xnd_MO_seek_69 : decode xnc_MO_seek 69 = .ok (.imul, 1) := by decide +kernel
theorem xnd_MO_seek_70 : decode xnc_MO_seek 70 = .ok (.istore_n 1, 1) := by decide +kernel
theorem xnd_MO_seek_71 : decode xnc_MO_seek 71 = .ok (.iinc 2 1, 3) := by decide +kernel
theorem xnd_MO_seek_74 : decode xnc_MO_seek 74 = .ok (.goto (-65), 3) := by decide +kernel
theorem xnd_MO_seek_77 : decode xnc_MO_seek 77 = .ok (.aload_n 0, 1) := by decide +kernel
theorem xnd_MO_seek_78 : decode xnc_MO_seek 78 = .ok (.bipush 6, 2) := by decide +kernel
theorem xnd_MO_seek_80 : decode xnc_MO_seek 80 = .ok (.invokevirtual 130, 3) := by decide +kernel
theorem xnd_MO_seek_83 : decode xnc_MO_seek 83 = .ok (.return_, 1) := by decide +kernel
theorem xnd_MO_leads_0 : decode xnc_MO_leads 0 = .ok (.iconst 1, 1) := by decide +kernel
theorem xnd_MO_leads_1 : decode xnc_MO_leads 1 = .ok (.istore_n 3, 1) := by decide +kernel
theorem xnd_MO_leads_2 : decode xnc_MO_leads 2 = .ok (.iconst 0, 1) := by decide +kernel
theorem xnd_MO_leads_3 : decode xnc_MO_leads 3 = .ok (.istore 4, 2) := by decide +kernel
theorem xnd_MO_leads_5 : decode xnc_MO_leads 5 = .ok (.iload 4, 2) := by decide +kernel
theorem xnd_MO_leads_7 : decode xnc_MO_leads 7 = .ok (.iload_n 2, 1) := by decide +kernel
theorem xnd_MO_leads_8 : decode xnc_MO_leads 8 = .ok (.if_icmp .ge 16, 3) := by decide +kernel
theorem xnd_MO_leads_11 : decode xnc_MO_leads 11 = .ok (.iload_n 3, 1) := by decide +kernel
theorem xnd_MO_leads_12 : decode xnc_MO_leads 12 = .ok (.aload_n 0, 1) := by decide +kernel
theorem xnd_MO_leads_13 : decode xnc_MO_leads 13 = .ok (.getfield 69, 3) := by decide +kernel
theorem xnd_MO_leads_16 : decode xnc_MO_leads 16 = .ok (.imul, 1) := by decide +kernel
theorem xnd_MO_leads_17 : decode xnc_MO_leads 17 = .ok (.istore_n 3, 1) := by decide +kernel
theorem xnd_MO_leads_18 : decode xnc_MO_leads 18 = .ok (.iinc 4 1, 3) := by decide +kernel
theorem xnd_MO_leads_21 : decode xnc_MO_leads 21 = .ok (.goto (-16), 3) := by decide +kernel
theorem xnd_MO_leads_24 : decode xnc_MO_leads 24 = .ok (.iload_n 1, 1) := by decide +kernel
theorem xnd_MO_leads_25 : decode xnc_MO_leads 25 = .ok (.istore 4, 2) := by decide +kernel
theorem xnd_MO_leads_27 : decode xnc_MO_leads 27 = .ok (.iconst 0, 1) := by decide +kernel
theorem xnd_MO_leads_28 : decode xnc_MO_leads 28 = .ok (.istore 5, 2) := by decide +kernel
theorem xnd_MO_leads_30 : decode xnc_MO_leads 30 = .ok (.iload 5, 2) := by decide +kernel
theorem xnd_MO_leads_32 : decode xnc_MO_leads 32 = .ok (.iload_n 2, 1) := by decide +kernel
theorem xnd_MO_leads_33 : decode xnc_MO_leads 33 = .ok (.if_icmp .gt 172, 3) := by decide +kernel
theorem xnd_MO_leads_36 : decode xnc_MO_leads 36 = .ok (.iload 4, 2) := by decide +kernel
theorem xnd_MO_leads_38 : decode xnc_MO_leads 38 = .ok (.iload_n 3, 1) := by decide +kernel
theorem xnd_MO_leads_39 : decode xnc_MO_leads 39 = .ok (.idiv, 1) := by decide +kernel
theorem xnd_MO_leads_40 : decode xnc_MO_leads 40 = .ok (.istore 6, 2) := by decide +kernel
theorem xnd_MO_leads_42 : decode xnc_MO_leads 42 = .ok (.iload 4, 2) := by decide +kernel
theorem xnd_MO_leads_44 : decode xnc_MO_leads 44 = .ok (.iload_n 3, 1) := by decide +kernel
theorem xnd_MO_leads_45 : decode xnc_MO_leads 45 = .ok (.irem, 1) := by decide +kernel
theorem xnd_MO_leads_46 : decode xnc_MO_leads 46 = .ok (.istore 4, 2) := by decide +kernel
theorem xnd_MO_leads_48 : decode xnc_MO_leads 48 = .ok (.iload_n 3, 1) := by decide +kernel
theorem xnd_MO_leads_49 : decode xnc_MO_leads 49 = .ok (.aload_n 0, 1) := by decide +kernel
theorem xnd_MO_leads_50 : decode xnc_MO_leads 50 = .ok (.getfield 69, 3) := by decide +kernel
theorem xnd_MO_leads_53 : decode xnc_MO_leads 53 = .ok (.idiv, 1) := by decide +kernel
theorem xnd_MO_leads_54 : decode xnc_MO_leads 54 = .ok (.istore_n 3, 1) := by decide +kernel
theorem xnd_MO_leads_55 : decode xnc_MO_leads 55 = .ok (.iload 5, 2) := by decide +kernel
theorem xnd_MO_leads_57 : decode xnc_MO_leads 57 = .ok (.ifCond .ne 39, 3) := by decide +kernel
theorem xnd_MO_leads_60 : decode xnc_MO_leads 60 = .ok (.aload_n 0, 1) := by decide +kernel
theorem xnd_MO_leads_61 : decode xnc_MO_leads 61 = .ok (.getfield 39, 3) := by decide +kernel
theorem xnd_MO_leads_64 : decode xnc_MO_leads 64 = .ok (.iconst 0, 1) := by decide +kernel
theorem xnd_MO_leads_65 : decode xnc_MO_leads 65 = .ok (.aload_n 0, 1) := by decide +kernel
theorem xnd_MO_leads_66 : decode xnc_MO_leads 66 = .ok (.getfield 69, 3) := by decide +kernel
theorem xnd_MO_leads_69 : decode xnc_MO_leads 69 = .ok (.aload_n 0, 1) := by decide +kernel
theorem xnd_MO_leads_70 : decode xnc_MO_leads 70 = .ok (.getfield 105, 3) := by decide +kernel
theorem xnd_MO_leads_73 : decode xnc_MO_leads 73 = .ok (.iload 6, 2) := by decide +kernel
theorem xnd_MO_leads_75 : decode xnc_MO_leads 75 = .ok (.aload_n 0, 1) := by decide +kernel
theorem xnd_MO_leads_76 : decode xnc_MO_leads 76 = .ok (.getfield 69, 3) := by decide +kernel
theorem xnd_MO_leads_79 : decode xnc_MO_leads 79 = .ok (.idiv, 1) := by decide +kernel
theorem xnd_MO_leads_80 : decode xnc_MO_leads 80 = .ok (.invokestatic 80, 3) := by decide +kernel
theorem xnd_MO_leads_83 : decode xnc_MO_leads 83 = .ok (.imul, 1) := by decide +kernel
theorem xnd_MO_leads_84 : decode xnc_MO_leads 84 = .ok (.iload 6, 2) := by decide +kernel
theorem xnd_MO_leads_86 : decode xnc_MO_leads 86 = .ok (.aload_n 0, 1) := by decide +kernel
theorem xnd_MO_leads_87 : decode xnc_MO_leads 87 = .ok (.getfield 69, 3) := by decide +kernel
theorem xnd_MO_leads_90 : decode xnc_MO_leads 90 = .ok (.irem, 1) := by decide +kernel
theorem xnd_MO_leads_91 : decode xnc_MO_leads 91 = .ok (.iadd, 1) := by decide +kernel
theorem xnd_MO_leads_92 : decode xnc_MO_leads 92 = .ok (.iastore, 1) := by decide +kernel
theorem xnd_MO_leads_93 : decode xnc_MO_leads 93 = .ok (.goto 70, 3) := by decide +kernel
theorem xnd_MO_leads_96 : decode xnc_MO_leads 96 = .ok (.aload_n 0, 1) := by decide +kernel
theorem xnd_MO_leads_97 : decode xnc_MO_leads 97 = .ok (.getfield 17, 3) := by decide +kernel
theorem xnd_MO_leads_100 : decode xnc_MO_leads 100 = .ok (.aload_n 0, 1) := by decide +kernel
theorem xnd_MO_leads_101 : decode xnc_MO_leads 101 = .ok (.getfield 7, 3) := by decide +kernel
theorem xnd_MO_leads_104 : decode xnc_MO_leads 104 = .ok (.aload_n 0, 1) := by decide +kernel
theorem xnd_MO_leads_105 : decode xnc_MO_leads 105 = .ok (.getfield 39, 3) := by decide +kernel
theorem xnd_MO_leads_108 : decode xnc_MO_leads 108 = .ok (.iload 5, 2) := by decide +kernel
theorem xnd_MO_leads_110 : decode xnc_MO_leads 110 = .ok (.iconst 1, 1) := by decide +kernel
theorem xnd_MO_leads_111 : decode xnc_MO_leads 111 = .ok (.isub, 1) := by decide +kernel
theorem xnd_MO_leads_112 : decode xnc_MO_leads 112 = .ok (.iaload, 1) := by decide +kernel
theorem xnd_MO_leads_113 : decode xnc_MO_leads 113 = .ok (.iaload, 1) := by decide +kernel
theorem xnd_MO_leads_114 : decode xnc_MO_leads 114 = .ok (.iconst 1, 1) := by decide +kernel
theorem xnd_MO_leads_115 : decode xnc_MO_leads 115 = .ok (.isub, 1) := by decide +kernel
theorem xnd_MO_leads_116 : decode xnc_MO_leads 116 = .ok (.iaload, 1) := by decide +kernel
theorem xnd_MO_leads_117 : decode xnc_MO_leads 117 = .ok (.istore 7, 2) := by decide +kernel
theorem xnd_MO_leads_119 : decode xnc_MO_leads 119 = .ok (.aload_n 0, 1) := by decide +kernel
theorem xnd_MO_leads_120 : decode xnc_MO_leads 120 = .ok (.getfield 39, 3) := by decide +kernel
theorem xnd_MO_leads_123 : decode xnc_MO_leads 123 = .ok (.iload 5, 2) := by decide +kernel
theorem xnd_MO_leads_125 : decode xnc_MO_leads 125 = .ok (.iconst 1, 1) := by decide +kernel
theorem xnd_MO_leads_126 : decode xnc_MO_leads 126 = .ok (.isub, 1) := by decide +kernel
theorem xnd_MO_leads_127 : decode xnc_MO_leads 127 = .ok (.iaload, 1) := by decide +kernel
theorem xnd_MO_leads_128 : decode xnc_MO_leads 128 = .ok (.aload_n 0, 1) := by decide +kernel
theorem xnd_MO_leads_129 : decode xnc_MO_leads 129 = .ok (.getfield 69, 3) := by decide +kernel
theorem xnd_MO_leads_132 : decode xnc_MO_leads 132 = .ok (.idiv, 1) := by decide +kernel
theorem xnd_MO_leads_133 : decode xnc_MO_leads 133 = .ok (.iconst 1, 1) := by decide +kernel
theorem xnd_MO_leads_134 : decode xnc_MO_leads 134 = .ok (.iload 7, 2) := by decide +kernel
theorem xnd_MO_leads_136 : decode xnc_MO_leads 136 = .ok (.invokestatic 77, 3) := by decide +kernel
theorem xnd_MO_leads_139 : decode xnc_MO_leads 139 = .ok (.bipush 7, 2) := by decide +kernel
theorem xnd_MO_leads_141 : decode xnc_MO_leads 141 = .ok (.irem, 1) := by decide +kernel
theorem xnd_MO_leads_142 : decode xnc_MO_leads 142 = .ok (.iadd, 1) := by decide +kernel
theorem xnd_MO_leads_143 : decode xnc_MO_leads 143 = .ok (.ixor, 1) := by decide +kernel
theorem xnd_MO_leads_144 : decode xnc_MO_leads 144 = .ok (.istore 8, 2) := by decide +kernel
theorem xnd_MO_leads_146 : decode xnc_MO_leads 146 = .ok (.aload_n 0, 1) := by decide +kernel
theorem xnd_MO_leads_147 : decode xnc_MO_leads 147 = .ok (.getfield 39, 3) := by decide +kernel
theorem xnd_MO_leads_150 : decode xnc_MO_leads 150 = .ok (.iload 5, 2) := by decide +kernel
theorem xnd_MO_leads_152 : decode xnc_MO_leads 152 = .ok (.aload_n 0, 1) := by decide +kernel
theorem xnd_MO_leads_153 : decode xnc_MO_leads 153 = .ok (.getfield 69, 3) := by decide +kernel
theorem xnd_MO_leads_156 : decode xnc_MO_leads 156 = .ok (.iload 8, 2) := by decide +kernel
theorem xnd_MO_leads_158 : decode xnc_MO_leads 158 = .ok (.imul, 1) := by decide +kernel
theorem xnd_MO_leads_159 : decode xnc_MO_leads 159 = .ok (.iload 6, 2) := by decide +kernel
theorem xnd_MO_leads_161 : decode xnc_MO_leads 161 = .ok (.iadd, 1) := by decide +kernel
theorem xnd_MO_leads_162 : decode xnc_MO_leads 162 = .ok (.iastore, 1) := by decide +kernel
theorem xnd_MO_leads_163 : decode xnc_MO_leads 163 = .ok (.aload_n 0, 1) := by decide +kernel
theorem xnd_MO_leads_164 : decode xnc_MO_leads 164 = .ok (.getfield 7, 3) := by decide +kernel
theorem xnd_MO_leads_167 : decode xnc_MO_leads 167 = .ok (.aload_n 0, 1) := by decide +kernel
theorem xnd_MO_leads_168 : decode xnc_MO_leads 168 = .ok (.getfield 39, 3) := by decide +kernel
theorem xnd_MO_leads_171 : decode xnc_MO_leads 171 = .ok (.iload 5, 2) := by decide +kernel
theorem xnd_MO_leads_173 : decode xnc_MO_leads 173 = .ok (.iaload, 1) := by decide +kernel
theorem xnd_MO_leads_174 : decode xnc_MO_leads 174 = .ok (.iaload, 1) := by decide +kernel
theorem xnd_MO_leads_175 : decode xnc_MO_leads 175 = .ok (.ifCond .ne 7, 3) := by decide +kernel
theorem xnd_MO_leads_178 : decode xnc_MO_leads 178 = .ok (.iconst 1, 1) := by decide +kernel
theorem xnd_MO_leads_179 : decode xnc_MO_leads 179 = .ok (.goto 4, 3) := by decide +kernel
theorem xnd_MO_leads_182 : decode xnc_MO_leads 182 = .ok (.iconst 0, 1) := by decide +kernel
theorem xnd_MO_leads_183 : decode xnc_MO_leads 183 = .ok (.iload 5, 2) := by decide +kernel
theorem xnd_MO_leads_185 : decode xnc_MO_leads 185 = .ok (.iload_n 2, 1) := by decide +kernel
theorem xnd_MO_leads_186 : decode xnc_MO_leads 186 = .ok (.if_icmp .ne 7, 3) := by decide +kernel
theorem xnd_MO_leads_189 : decode xnc_MO_leads 189 = .ok (.iconst 1, 1) := by decide +kernel
theorem xnd_MO_leads_190 : decode xnc_MO_leads 190 = .ok (.goto 4, 3) := by decide +kernel
theorem xnd_MO_leads_193 : decode xnc_MO_leads 193 = .ok (.iconst 0, 1) := by decide +kernel
theorem xnd_MO_leads_194 : decode xnc_MO_leads 194 = .ok (.if_icmp .eq 5, 3) := by decide +kernel
theorem xnd_MO_leads_197 : decode xnc_MO_leads 197 = .ok (.iconst 0, 1) := by decide +kernel
theorem xnd_MO_leads_198 : decode xnc_MO_leads 198 = .ok (.ireturn, 1) := by decide +kernel
theorem xnd_MO_leads_199 : decode xnc_MO_leads 199 = .ok (.iinc 5 1, 3) := by decide +kernel
theorem xnd_MO_leads_202 : decode xnc_MO_leads 202 = .ok (.goto (-172), 3) := by decide +kernel
theorem xnd_MO_leads_205 : decode xnc_MO_leads 205 = .ok (.iconst 1, 1) := by decide +kernel
theorem xnd_MO_leads_206 : decode xnc_MO_leads 206 = .ok (.ireturn, 1) := by decide +kernel
theorem xnd_MO_move_0 : decode xnc_MO_move 0 = .ok (.aload_n 0, 1) := by decide +kernel
theorem xnd_MO_move_1 : decode xnc_MO_move 1 = .ok (.getfield 7, 3) := by decide +kernel
theorem xnd_MO_move_4 : decode xnc_MO_move 4 = .ok (.aload_n 0, 1) := by decide +kernel
theorem xnd_MO_move_5 : decode xnc_MO_move 5 = .ok (.getfield 39, 3) := by decide +kernel
theorem xnd_MO_move_8 : decode xnc_MO_move 8 = .ok (.aload_n 0, 1) := by decide +kernel
theorem xnd_MO_move_9 : decode xnc_MO_move 9 = .ok (.getfield 178, 3) := by decide +kernel
theorem xnd_MO_move_12 : decode xnc_MO_move 12 = .ok (.iaload, 1) := by decide +kernel
theorem xnd_MO_move_13 : decode xnc_MO_move 13 = .ok (.iaload, 1) := by decide +kernel
theorem xnd_MO_move_14 : decode xnc_MO_move 14 = .ok (.iconst 1, 1) := by decide +kernel
theorem xnd_MO_move_15 : decode xnc_MO_move 15 = .ok (.isub, 1) := by decide +kernel
theorem xnd_MO_move_16 : decode xnc_MO_move 16 = .ok (.istore_n 1, 1) := by decide +kernel
theorem xnd_MO_move_17 : decode xnc_MO_move 17 = .ok (.aload_n 0, 1) := by decide +kernel
theorem xnd_MO_move_18 : decode xnc_MO_move 18 = .ok (.getfield 32, 3) := by decide +kernel
theorem xnd_MO_move_21 : decode xnc_MO_move 21 = .ok (.aload_n 0, 1) := by decide +kernel
theorem xnd_MO_move_22 : decode xnc_MO_move 22 = .ok (.getfield 17, 3) := by decide +kernel
theorem xnd_MO_move_25 : decode xnc_MO_move 25 = .ok (.iload_n 1, 1) := by decide +kernel
theorem xnd_MO_move_26 : decode xnc_MO_move 26 = .ok (.iaload, 1) := by decide +kernel
theorem xnd_MO_move_27 : decode xnc_MO_move 27 = .ok (.invokestatic 84, 3) := by decide +kernel
theorem xnd_MO_move_30 : decode xnc_MO_move 30 = .ok (.dup2, 1) := by decide +kernel
theorem xnd_MO_move_31 : decode xnc_MO_move 31 = .ok (.iaload, 1) := by decide +kernel
theorem xnd_MO_move_32 : decode xnc_MO_move 32 = .ok (.iconst 1, 1) := by decide +kernel
theorem xnd_MO_move_33 : decode xnc_MO_move 33 = .ok (.iadd, 1) := by decide +kernel
theorem xnd_MO_move_34 : decode xnc_MO_move 34 = .ok (.iastore, 1) := by decide +kernel
theorem xnd_MO_move_35 : decode xnc_MO_move 35 = .ok (.aload_n 0, 1) := by decide +kernel
theorem xnd_MO_move_36 : decode xnc_MO_move 36 = .ok (.getfield 99, 3) := by decide +kernel
theorem xnd_MO_move_39 : decode xnc_MO_move 39 = .ok (.bipush 6, 2) := by decide +kernel
theorem xnd_MO_move_41 : decode xnc_MO_move 41 = .ok (.if_icmp .ne 29, 3) := by decide +kernel
theorem xnd_MO_move_44 : decode xnc_MO_move 44 = .ok (.aload_n 0, 1) := by decide +kernel
theorem xnd_MO_move_45 : decode xnc_MO_move 45 = .ok (.getfield 7, 3) := by decide +kernel
theorem xnd_MO_move_48 : decode xnc_MO_move 48 = .ok (.aload_n 0, 1) := by decide +kernel
theorem xnd_MO_move_49 : decode xnc_MO_move 49 = .ok (.getfield 39, 3) := by decide +kernel
theorem xnd_MO_move_52 : decode xnc_MO_move 52 = .ok (.aload_n 0, 1) := by decide +kernel
theorem xnd_MO_move_53 : decode xnc_MO_move 53 = .ok (.getfield 178, 3) := by decide +kernel
theorem xnd_MO_move_56 : decode xnc_MO_move 56 = .ok (.iconst 1, 1) := by decide +kernel
theorem xnd_MO_move_57 : decode xnc_MO_move 57 = .ok (.iadd, 1) := by decide +kernel
theorem xnd_MO_move_58 : decode xnc_MO_move 58 = .ok (.iaload, 1) := by decide +kernel
theorem xnd_MO_move_59 : decode xnc_MO_move 59 = .ok (.iload_n 1, 1) := by decide +kernel
theorem xnd_MO_move_60 : decode xnc_MO_move 60 = .ok (.iconst 1, 1) := by decide +kernel
theorem xnd_MO_move_61 : decode xnc_MO_move 61 = .ok (.iadd, 1) := by decide +kernel
theorem xnd_MO_move_62 : decode xnc_MO_move 62 = .ok (.iastore, 1) := by decide +kernel
theorem xnd_MO_move_63 : decode xnc_MO_move 63 = .ok (.aload_n 0, 1) := by decide +kernel
theorem xnd_MO_move_64 : decode xnc_MO_move 64 = .ok (.bipush 7, 2) := by decide +kernel
theorem xnd_MO_move_66 : decode xnc_MO_move 66 = .ok (.putfield 99, 3) := by decide +kernel
theorem xnd_MO_move_69 : decode xnc_MO_move 69 = .ok (.return_, 1) := by decide +kernel
theorem xnd_MO_move_70 : decode xnc_MO_move 70 = .ok (.aload_n 0, 1) := by decide +kernel
theorem xnd_MO_move_71 : decode xnc_MO_move 71 = .ok (.getfield 7, 3) := by decide +kernel
theorem xnd_MO_move_74 : decode xnc_MO_move 74 = .ok (.aload_n 0, 1) := by decide +kernel
theorem xnd_MO_move_75 : decode xnc_MO_move 75 = .ok (.getfield 39, 3) := by decide +kernel
theorem xnd_MO_move_78 : decode xnc_MO_move 78 = .ok (.aload_n 0, 1) := by decide +kernel
theorem xnd_MO_move_79 : decode xnc_MO_move 79 = .ok (.getfield 178, 3) := by decide +kernel
theorem xnd_MO_move_82 : decode xnc_MO_move 82 = .ok (.iaload, 1) := by decide +kernel
theorem xnd_MO_move_83 : decode xnc_MO_move 83 = .ok (.iconst 0, 1) := by decide +kernel
theorem xnd_MO_move_84 : decode xnc_MO_move 84 = .ok (.iastore, 1) := by decide +kernel
theorem xnd_MO_move_85 : decode xnc_MO_move 85 = .ok (.aload_n 0, 1) := by decide +kernel
theorem xnd_MO_move_86 : decode xnc_MO_move 86 = .ok (.dup, 1) := by decide +kernel
theorem xnd_MO_move_87 : decode xnc_MO_move 87 = .ok (.getfield 181, 3) := by decide +kernel
theorem xnd_MO_move_90 : decode xnc_MO_move 90 = .ok (.iconst 1, 1) := by decide +kernel
theorem xnd_MO_move_91 : decode xnc_MO_move 91 = .ok (.iadd, 1) := by decide +kernel
theorem xnd_MO_move_92 : decode xnc_MO_move 92 = .ok (.putfield 181, 3) := by decide +kernel
theorem xnd_MO_move_95 : decode xnc_MO_move 95 = .ok (.aload_n 0, 1) := by decide +kernel
theorem xnd_MO_move_96 : decode xnc_MO_move 96 = .ok (.dup, 1) := by decide +kernel
theorem xnd_MO_move_97 : decode xnc_MO_move 97 = .ok (.getfield 178, 3) := by decide +kernel
theorem xnd_MO_move_100 : decode xnc_MO_move 100 = .ok (.iconst 1, 1) := by decide +kernel
theorem xnd_MO_move_101 : decode xnc_MO_move 101 = .ok (.isub, 1) := by decide +kernel
theorem xnd_MO_move_102 : decode xnc_MO_move 102 = .ok (.putfield 178, 3) := by decide +kernel
theorem xnd_MO_move_105 : decode xnc_MO_move 105 = .ok (.aload_n 0, 1) := by decide +kernel
theorem xnd_MO_move_106 : decode xnc_MO_move 106 = .ok (.aload_n 0, 1) := by decide +kernel
theorem xnd_MO_move_107 : decode xnc_MO_move 107 = .ok (.getfield 178, 3) := by decide +kernel
theorem xnd_MO_move_110 : decode xnc_MO_move 110 = .ok (.ifCond .lt 8, 3) := by decide +kernel
theorem xnd_MO_move_113 : decode xnc_MO_move 113 = .ok (.bipush 6, 2) := by decide +kernel
theorem xnd_MO_move_115 : decode xnc_MO_move 115 = .ok (.goto 5, 3) := by decide +kernel
theorem xnd_MO_move_118 : decode xnc_MO_move 118 = .ok (.bipush 8, 2) := by decide +kernel
theorem xnd_MO_move_120 : decode xnc_MO_move 120 = .ok (.putfield 99, 3) := by decide +kernel
theorem xnd_MO_move_123 : decode xnc_MO_move 123 = .ok (.return_, 1) := by decide +kernel
theorem xnd_MO_enter_0 : decode xnc_MO_enter 0 = .ok (.iconst 0, 1) := by decide +kernel
theorem xnd_MO_enter_1 : decode xnc_MO_enter 1 = .ok (.istore_n 1, 1) := by decide +kernel
theorem xnd_MO_enter_2 : decode xnc_MO_enter 2 = .ok (.iload_n 1, 1) := by decide +kernel
theorem xnd_MO_enter_3 : decode xnc_MO_enter 3 = .ok (.bipush 31, 2) := by decide +kernel
theorem xnd_MO_enter_5 : decode xnc_MO_enter 5 = .ok (.if_icmp .ge 18, 3) := by decide +kernel
theorem xnd_MO_enter_8 : decode xnc_MO_enter 8 = .ok (.aload_n 0, 1) := by decide +kernel
theorem xnd_MO_enter_9 : decode xnc_MO_enter 9 = .ok (.getfield 13, 3) := by decide +kernel
theorem xnd_MO_enter_12 : decode xnc_MO_enter 12 = .ok (.iload_n 1, 1) := by decide +kernel
theorem xnd_MO_enter_13 : decode xnc_MO_enter 13 = .ok (.baload, 1) := by decide +kernel
theorem xnd_MO_enter_14 : decode xnc_MO_enter 14 = .ok (.ifCond .eq 9, 3) := by decide +kernel
theorem xnd_MO_enter_17 : decode xnc_MO_enter 17 = .ok (.iinc 1 1, 3) := by decide +kernel
theorem xnd_MO_enter_20 : decode xnc_MO_enter 20 = .ok (.goto (-18), 3) := by decide +kernel
theorem xnd_MO_enter_23 : decode xnc_MO_enter 23 = .ok (.aload_n 0, 1) := by decide +kernel
theorem xnd_MO_enter_24 : decode xnc_MO_enter 24 = .ok (.getfield 13, 3) := by decide +kernel
theorem xnd_MO_enter_27 : decode xnc_MO_enter 27 = .ok (.iload_n 1, 1) := by decide +kernel
theorem xnd_MO_enter_28 : decode xnc_MO_enter 28 = .ok (.iconst 1, 1) := by decide +kernel
theorem xnd_MO_enter_29 : decode xnc_MO_enter 29 = .ok (.bastore, 1) := by decide +kernel
theorem xnd_MO_enter_30 : decode xnc_MO_enter 30 = .ok (.aload_n 0, 1) := by decide +kernel
theorem xnd_MO_enter_31 : decode xnc_MO_enter 31 = .ok (.getfield 17, 3) := by decide +kernel
theorem xnd_MO_enter_34 : decode xnc_MO_enter 34 = .ok (.iload_n 1, 1) := by decide +kernel
theorem xnd_MO_enter_35 : decode xnc_MO_enter 35 = .ok (.aload_n 0, 1) := by decide +kernel
theorem xnd_MO_enter_36 : decode xnc_MO_enter 36 = .ok (.getfield 105, 3) := by decide +kernel
theorem xnd_MO_enter_39 : decode xnc_MO_enter 39 = .ok (.iastore, 1) := by decide +kernel
theorem xnd_MO_enter_40 : decode xnc_MO_enter 40 = .ok (.aload_n 0, 1) := by decide +kernel
theorem xnd_MO_enter_41 : decode xnc_MO_enter 41 = .ok (.getfield 20, 3) := by decide +kernel
theorem xnd_MO_enter_44 : decode xnc_MO_enter 44 = .ok (.iload_n 1, 1) := by decide +kernel
theorem xnd_MO_enter_45 : decode xnc_MO_enter 45 = .ok (.aload_n 0, 1) := by decide +kernel
theorem xnd_MO_enter_46 : decode xnc_MO_enter 46 = .ok (.getfield 108, 3) := by decide +kernel
theorem xnd_MO_enter_49 : decode xnc_MO_enter 49 = .ok (.iastore, 1) := by decide +kernel
theorem xnd_MO_enter_50 : decode xnc_MO_enter 50 = .ok (.aload_n 0, 1) := by decide +kernel
theorem xnd_MO_enter_51 : decode xnc_MO_enter 51 = .ok (.iload_n 1, 1) := by decide +kernel
theorem xnd_MO_enter_52 : decode xnc_MO_enter 52 = .ok (.invokevirtual 126, 3) := by decide +kernel
theorem xnd_MO_enter_55 : decode xnc_MO_enter 55 = .ok (.aload_n 0, 1) := by decide +kernel
theorem xnd_MO_enter_56 : decode xnc_MO_enter 56 = .ok (.getfield 29, 3) := by decide +kernel
theorem xnd_MO_enter_59 : decode xnc_MO_enter 59 = .ok (.iload_n 1, 1) := by decide +kernel
theorem xnd_MO_enter_60 : decode xnc_MO_enter 60 = .ok (.iconst 0, 1) := by decide +kernel
theorem xnd_MO_enter_61 : decode xnc_MO_enter 61 = .ok (.bastore, 1) := by decide +kernel
theorem xnd_MO_enter_62 : decode xnc_MO_enter 62 = .ok (.aload_n 0, 1) := by decide +kernel
theorem xnd_MO_enter_63 : decode xnc_MO_enter 63 = .ok (.getfield 7, 3) := by decide +kernel
theorem xnd_MO_enter_66 : decode xnc_MO_enter 66 = .ok (.aload_n 0, 1) := by decide +kernel
theorem xnd_MO_enter_67 : decode xnc_MO_enter 67 = .ok (.getfield 39, 3) := by decide +kernel
theorem xnd_MO_enter_70 : decode xnc_MO_enter 70 = .ok (.iconst 0, 1) := by decide +kernel
theorem xnd_MO_enter_71 : decode xnc_MO_enter 71 = .ok (.iaload, 1) := by decide +kernel
theorem xnd_MO_enter_72 : decode xnc_MO_enter 72 = .ok (.iload_n 1, 1) := by decide +kernel
theorem xnd_MO_enter_73 : decode xnc_MO_enter 73 = .ok (.iconst 1, 1) := by decide +kernel
theorem xnd_MO_enter_74 : decode xnc_MO_enter 74 = .ok (.iadd, 1) := by decide +kernel
theorem xnd_MO_enter_75 : decode xnc_MO_enter 75 = .ok (.iastore, 1) := by decide +kernel
theorem xnd_MO_enter_76 : decode xnc_MO_enter 76 = .ok (.aload_n 0, 1) := by decide +kernel
theorem xnd_MO_enter_77 : decode xnc_MO_enter 77 = .ok (.iconst 1, 1) := by decide +kernel
theorem xnd_MO_enter_78 : decode xnc_MO_enter 78 = .ok (.invokevirtual 130, 3) := by decide +kernel
theorem xnd_MO_enter_81 : decode xnc_MO_enter 81 = .ok (.return_, 1) := by decide +kernel
theorem xnd_MO_outcome_0 : decode xnc_MO_outcome 0 = .ok (.aload_n 0, 1) := by decide +kernel
theorem xnd_MO_outcome_1 : decode xnc_MO_outcome 1 = .ok (.getfield 99, 3) := by decide +kernel
theorem xnd_MO_outcome_4 : decode xnc_MO_outcome 4 = .ok (.ifCond .le 7, 3) := by decide +kernel
theorem xnd_MO_outcome_7 : decode xnc_MO_outcome 7 = .ok (.iconst 0, 1) := by decide +kernel
theorem xnd_MO_outcome_8 : decode xnc_MO_outcome 8 = .ok (.goto 7, 3) := by decide +kernel
theorem xnd_MO_outcome_11 : decode xnc_MO_outcome 11 = .ok (.aload_n 0, 1) := by decide +kernel
theorem xnd_MO_outcome_12 : decode xnc_MO_outcome 12 = .ok (.getfield 35, 3) := by decide +kernel
theorem xnd_MO_outcome_15 : decode xnc_MO_outcome 15 = .ok (.ireturn, 1) := by decide +kernel
theorem xnd_MO_get_0 : decode xnc_MO_get 0 = .ok (.iload_n 1, 1) := by decide +kernel
theorem xnd_MO_get_1 : decode xnc_MO_get 1 = .ok (.invokestatic 184, 3) := by decide +kernel
theorem xnd_MO_get_4 : decode xnc_MO_get 4 = .ok (.ifCond .eq 11, 3) := by decide +kernel
theorem xnd_MO_get_7 : decode xnc_MO_get 7 = .ok (.aload_n 0, 1) := by decide +kernel
theorem xnd_MO_get_8 : decode xnc_MO_get 8 = .ok (.iload_n 1, 1) := by decide +kernel
theorem xnd_MO_get_9 : decode xnc_MO_get 9 = .ok (.invokevirtual 187, 3) := by decide +kernel
theorem xnd_MO_get_12 : decode xnc_MO_get 12 = .ok (.ifCond .eq 5, 3) := by decide +kernel
theorem xnd_MO_get_15 : decode xnc_MO_get 15 = .ok (.iconst 0, 1) := by decide +kernel
theorem xnd_MO_get_16 : decode xnc_MO_get 16 = .ok (.ireturn, 1) := by decide +kernel
theorem xnd_MO_get_17 : decode xnc_MO_get 17 = .ok (.aload_n 0, 1) := by decide +kernel
theorem xnd_MO_get_18 : decode xnc_MO_get 18 = .ok (.getfield 45, 3) := by decide +kernel
theorem xnd_MO_get_21 : decode xnc_MO_get 21 = .ok (.iload_n 1, 1) := by decide +kernel
theorem xnd_MO_get_22 : decode xnc_MO_get 22 = .ok (.iload_n 2, 1) := by decide +kernel
theorem xnd_MO_get_23 : decode xnc_MO_get 23 = .ok (.iastore, 1) := by decide +kernel
theorem xnd_MO_get_24 : decode xnc_MO_get 24 = .ok (.aload_n 0, 1) := by decide +kernel
theorem xnd_MO_get_25 : decode xnc_MO_get 25 = .ok (.getfield 51, 3) := by decide +kernel
theorem xnd_MO_get_28 : decode xnc_MO_get 28 = .ok (.iload_n 1, 1) := by decide +kernel
theorem xnd_MO_get_29 : decode xnc_MO_get 29 = .ok (.iconst 0, 1) := by decide +kernel
theorem xnd_MO_get_30 : decode xnc_MO_get 30 = .ok (.iastore, 1) := by decide +kernel
theorem xnd_MO_get_31 : decode xnc_MO_get 31 = .ok (.aload_n 0, 1) := by decide +kernel
theorem xnd_MO_get_32 : decode xnc_MO_get 32 = .ok (.getfield 42, 3) := by decide +kernel
theorem xnd_MO_get_35 : decode xnc_MO_get 35 = .ok (.iload_n 1, 1) := by decide +kernel
theorem xnd_MO_get_36 : decode xnc_MO_get 36 = .ok (.iconst 1, 1) := by decide +kernel
theorem xnd_MO_get_37 : decode xnc_MO_get 37 = .ok (.iastore, 1) := by decide +kernel
theorem xnd_MO_get_38 : decode xnc_MO_get 38 = .ok (.iconst 1, 1) := by decide +kernel
theorem xnd_MO_get_39 : decode xnc_MO_get 39 = .ok (.ireturn, 1) := by decide +kernel
theorem xnd_MO_reader_0 : decode xnc_MO_reader 0 = .ok (.iload_n 0, 1) := by decide +kernel
theorem xnd_MO_reader_1 : decode xnc_MO_reader 1 = .ok (.ifCond .lt 12, 3) := by decide +kernel
theorem xnd_MO_reader_4 : decode xnc_MO_reader 4 = .ok (.iload_n 0, 1) := by decide +kernel
theorem xnd_MO_reader_5 : decode xnc_MO_reader 5 = .ok (.iconst 2, 1) := by decide +kernel
theorem xnd_MO_reader_6 : decode xnc_MO_reader 6 = .ok (.if_icmp .gt 7, 3) := by decide +kernel
theorem xnd_MO_reader_9 : decode xnc_MO_reader 9 = .ok (.iconst 1, 1) := by decide +kernel
theorem xnd_MO_reader_10 : decode xnc_MO_reader 10 = .ok (.goto 4, 3) := by decide +kernel
theorem xnd_MO_reader_13 : decode xnc_MO_reader 13 = .ok (.iconst 0, 1) := by decide +kernel
theorem xnd_MO_reader_14 : decode xnc_MO_reader 14 = .ok (.ireturn, 1) := by decide +kernel
theorem xnd_MO_reading_0 : decode xnc_MO_reading 0 = .ok (.iload_n 1, 1) := by decide +kernel
theorem xnd_MO_reading_1 : decode xnc_MO_reading 1 = .ok (.invokestatic 184, 3) := by decide +kernel
theorem xnd_MO_reading_4 : decode xnc_MO_reading 4 = .ok (.ifCond .eq 28, 3) := by decide +kernel
theorem xnd_MO_reading_7 : decode xnc_MO_reading 7 = .ok (.aload_n 0, 1) := by decide +kernel
theorem xnd_MO_reading_8 : decode xnc_MO_reading 8 = .ok (.getfield 42, 3) := by decide +kernel
theorem xnd_MO_reading_11 : decode xnc_MO_reading 11 = .ok (.iload_n 1, 1) := by decide +kernel
theorem xnd_MO_reading_12 : decode xnc_MO_reading 12 = .ok (.iaload, 1) := by decide +kernel
theorem xnd_MO_reading_13 : decode xnc_MO_reading 13 = .ok (.iconst 1, 1) := by decide +kernel
theorem xnd_MO_reading_14 : decode xnc_MO_reading 14 = .ok (.if_icmp .lt 18, 3) := by decide +kernel
theorem xnd_MO_reading_17 : decode xnc_MO_reading 17 = .ok (.aload_n 0, 1) := by decide +kernel
theorem xnd_MO_reading_18 : decode xnc_MO_reading 18 = .ok (.getfield 42, 3) := by decide +kernel
theorem xnd_MO_reading_21 : decode xnc_MO_reading 21 = .ok (.iload_n 1, 1) := by decide +kernel
theorem xnd_MO_reading_22 : decode xnc_MO_reading 22 = .ok (.iaload, 1) := by decide +kernel
theorem xnd_MO_reading_23 : decode xnc_MO_reading 23 = .ok (.bipush 6, 2) := by decide +kernel
theorem xnd_MO_reading_25 : decode xnc_MO_reading 25 = .ok (.if_icmp .gt 7, 3) := by decide +kernel
theorem xnd_MO_reading_28 : decode xnc_MO_reading 28 = .ok (.iconst 1, 1) := by decide +kernel
theorem xnd_MO_reading_29 : decode xnc_MO_reading 29 = .ok (.goto 4, 3) := by decide +kernel
theorem xnd_MO_reading_32 : decode xnc_MO_reading 32 = .ok (.iconst 0, 1) := by decide +kernel
theorem xnd_MO_reading_33 : decode xnc_MO_reading 33 = .ok (.ireturn, 1) := by decide +kernel
theorem xnd_MO_step_0 : decode xnc_MO_step 0 = .ok (.aload_n 0, 1) := by decide +kernel
theorem xnd_MO_step_1 : decode xnc_MO_step 1 = .ok (.iload_n 1, 1) := by decide +kernel
theorem xnd_MO_step_2 : decode xnc_MO_step 2 = .ok (.invokevirtual 187, 3) := by decide +kernel
theorem xnd_MO_step_5 : decode xnc_MO_step 5 = .ok (.ifCond .ne 5, 3) := by decide +kernel
theorem xnd_MO_step_8 : decode xnc_MO_step 8 = .ok (.iconst (-1), 1) := by decide +kernel
theorem xnd_MO_step_9 : decode xnc_MO_step 9 = .ok (.ireturn, 1) := by decide +kernel
theorem xnd_MO_step_10 : decode xnc_MO_step 10 = .ok (.aload_n 0, 1) := by decide +kernel
theorem xnd_MO_step_11 : decode xnc_MO_step 11 = .ok (.getfield 42, 3) := by decide +kernel
theorem xnd_MO_step_14 : decode xnc_MO_step 14 = .ok (.iload_n 1, 1) := by decide +kernel
theorem xnd_MO_step_15 : decode xnc_MO_step 15 = .ok (.iaload, 1) := by decide +kernel
theorem xnd_MO_step_16 : decode xnc_MO_step 16 = .ok (.istore_n 2, 1) := by decide +kernel
theorem xnd_MO_step_17 : decode xnc_MO_step 17 = .ok (.iload_n 2, 1) := by decide +kernel
theorem xnd_MO_step_18 : decode xnc_MO_step 18 = .ok (.iconst 1, 1) := by decide +kernel
theorem xnd_MO_step_19 : decode xnc_MO_step 19 = .ok (.if_icmp .ne 25, 3) := by decide +kernel
theorem xnd_MO_step_22 : decode xnc_MO_step 22 = .ok (.aload_n 0, 1) := by decide +kernel
theorem xnd_MO_step_23 : decode xnc_MO_step 23 = .ok (.iload_n 1, 1) := by decide +kernel
theorem xnd_MO_step_24 : decode xnc_MO_step 24 = .ok (.aload_n 0, 1) := by decide +kernel
theorem xnd_MO_step_25 : decode xnc_MO_step 25 = .ok (.getfield 32, 3) := by decide +kernel
theorem xnd_MO_step_28 : decode xnc_MO_step 28 = .ok (.aload_n 0, 1) := by decide +kernel
theorem xnd_MO_step_29 : decode xnc_MO_step 29 = .ok (.getfield 45, 3) := by decide +kernel
theorem xnd_MO_step_32 : decode xnc_MO_step 32 = .ok (.iload_n 1, 1) := by decide +kernel
theorem xnd_MO_step_33 : decode xnc_MO_step 33 = .ok (.iaload, 1) := by decide +kernel
theorem xnd_MO_step_34 : decode xnc_MO_step 34 = .ok (.invokestatic 84, 3) := by decide +kernel
theorem xnd_MO_step_37 : decode xnc_MO_step 37 = .ok (.iaload, 1) := by decide +kernel
theorem xnd_MO_step_38 : decode xnc_MO_step 38 = .ok (.invokevirtual 190, 3) := by decide +kernel
theorem xnd_MO_step_41 : decode xnc_MO_step 41 = .ok (.goto 53, 3) := by decide +kernel
theorem xnd_MO_step_44 : decode xnc_MO_step 44 = .ok (.iload_n 2, 1) := by decide +kernel
theorem xnd_MO_step_45 : decode xnc_MO_step 45 = .ok (.iconst 2, 1) := by decide +kernel
theorem xnd_MO_step_46 : decode xnc_MO_step 46 = .ok (.if_icmp .eq 8, 3) := by decide +kernel
theorem xnd_MO_step_49 : decode xnc_MO_step 49 = .ok (.iload_n 2, 1) := by decide +kernel
theorem xnd_MO_step_50 : decode xnc_MO_step 50 = .ok (.iconst 3, 1) := by decide +kernel
theorem xnd_MO_step_51 : decode xnc_MO_step 51 = .ok (.if_icmp .ne 12, 3) := by decide +kernel
theorem xnd_MO_step_54 : decode xnc_MO_step 54 = .ok (.aload_n 0, 1) := by decide +kernel
theorem xnd_MO_step_55 : decode xnc_MO_step 55 = .ok (.iload_n 1, 1) := by decide +kernel
theorem xnd_MO_step_56 : decode xnc_MO_step 56 = .ok (.iload_n 2, 1) := by decide +kernel
theorem xnd_MO_step_57 : decode xnc_MO_step 57 = .ok (.invokevirtual 194, 3) := by decide +kernel
theorem xnd_MO_step_60 : decode xnc_MO_step 60 = .ok (.goto 34, 3) := by decide +kernel
theorem xnd_MO_step_63 : decode xnc_MO_step 63 = .ok (.iload_n 2, 1) := by decide +kernel
theorem xnd_MO_step_64 : decode xnc_MO_step 64 = .ok (.iconst 4, 1) := by decide +kernel
theorem xnd_MO_step_65 : decode xnc_MO_step 65 = .ok (.if_icmp .ne 11, 3) := by decide +kernel
theorem xnd_MO_step_68 : decode xnc_MO_step 68 = .ok (.aload_n 0, 1) := by decide +kernel
theorem xnd_MO_step_69 : decode xnc_MO_step 69 = .ok (.iload_n 1, 1) := by decide +kernel
theorem xnd_MO_step_70 : decode xnc_MO_step 70 = .ok (.invokevirtual 197, 3) := by decide +kernel
theorem xnd_MO_step_73 : decode xnc_MO_step 73 = .ok (.goto 21, 3) := by decide +kernel
theorem xnd_MO_step_76 : decode xnc_MO_step 76 = .ok (.iload_n 2, 1) := by decide +kernel
theorem xnd_MO_step_77 : decode xnc_MO_step 77 = .ok (.iconst 5, 1) := by decide +kernel
theorem xnd_MO_step_78 : decode xnc_MO_step 78 = .ok (.if_icmp .ne 11, 3) := by decide +kernel
theorem xnd_MO_step_81 : decode xnc_MO_step 81 = .ok (.aload_n 0, 1) := by decide +kernel
theorem xnd_MO_step_82 : decode xnc_MO_step 82 = .ok (.iload_n 1, 1) := by decide +kernel
theorem xnd_MO_step_83 : decode xnc_MO_step 83 = .ok (.invokevirtual 200, 3) := by decide +kernel
theorem xnd_MO_step_86 : decode xnc_MO_step 86 = .ok (.goto 8, 3) := by decide +kernel
theorem xnd_MO_step_89 : decode xnc_MO_step 89 = .ok (.aload_n 0, 1) := by decide +kernel
theorem xnd_MO_step_90 : decode xnc_MO_step 90 = .ok (.iload_n 1, 1) := by decide +kernel
theorem xnd_MO_step_91 : decode xnc_MO_step 91 = .ok (.invokevirtual 203, 3) := by decide +kernel
theorem xnd_MO_step_94 : decode xnc_MO_step 94 = .ok (.aload_n 0, 1) := by decide +kernel
theorem xnd_MO_step_95 : decode xnc_MO_step 95 = .ok (.getfield 42, 3) := by decide +kernel
theorem xnd_MO_step_98 : decode xnc_MO_step 98 = .ok (.iload_n 1, 1) := by decide +kernel
theorem xnd_MO_step_99 : decode xnc_MO_step 99 = .ok (.iaload, 1) := by decide +kernel
theorem xnd_MO_step_100 : decode xnc_MO_step 100 = .ok (.ireturn, 1) := by decide +kernel
theorem xnd_MO_keep_0 : decode xnc_MO_keep 0 = .ok (.iload_n 2, 1) := by decide +kernel
theorem xnd_MO_keep_1 : decode xnc_MO_keep 1 = .ok (.iconst 2, 1) := by decide +kernel
theorem xnd_MO_keep_2 : decode xnc_MO_keep 2 = .ok (.irem, 1) := by decide +kernel
theorem xnd_MO_keep_3 : decode xnc_MO_keep 3 = .ok (.ifCond .eq 14, 3) := by decide +kernel
theorem xnd_MO_keep_6 : decode xnc_MO_keep 6 = .ok (.aload_n 0, 1) := by decide +kernel
theorem xnd_MO_keep_7 : decode xnc_MO_keep 7 = .ok (.dup, 1) := by decide +kernel
theorem xnd_MO_keep_8 : decode xnc_MO_keep 8 = .ok (.getfield 206, 3) := by decide +kernel
theorem xnd_MO_keep_11 : decode xnc_MO_keep 11 = .ok (.iconst 1, 1) := by decide +kernel
theorem xnd_MO_keep_12 : decode xnc_MO_keep 12 = .ok (.iadd, 1) := by decide +kernel
theorem xnd_MO_keep_13 : decode xnc_MO_keep 13 = .ok (.putfield 206, 3) := by decide +kernel
theorem xnd_MO_keep_16 : decode xnc_MO_keep 16 = .ok (.return_, 1) := by decide +kernel
theorem xnd_MO_keep_17 : decode xnc_MO_keep 17 = .ok (.aload_n 0, 1) := by decide +kernel
theorem xnd_MO_keep_18 : decode xnc_MO_keep 18 = .ok (.getfield 48, 3) := by decide +kernel
theorem xnd_MO_keep_21 : decode xnc_MO_keep 21 = .ok (.iload_n 1, 1) := by decide +kernel
theorem xnd_MO_keep_22 : decode xnc_MO_keep 22 = .ok (.iload_n 2, 1) := by decide +kernel
theorem xnd_MO_keep_23 : decode xnc_MO_keep 23 = .ok (.iastore, 1) := by decide +kernel
theorem xnd_MO_keep_24 : decode xnc_MO_keep 24 = .ok (.aload_n 0, 1) := by decide +kernel
theorem xnd_MO_keep_25 : decode xnc_MO_keep 25 = .ok (.getfield 42, 3) := by decide +kernel
theorem xnd_MO_keep_28 : decode xnc_MO_keep 28 = .ok (.iload_n 1, 1) := by decide +kernel
theorem xnd_MO_keep_29 : decode xnc_MO_keep 29 = .ok (.iconst 2, 1) := by decide +kernel
theorem xnd_MO_keep_30 : decode xnc_MO_keep 30 = .ok (.iastore, 1) := by decide +kernel
theorem xnd_MO_keep_31 : decode xnc_MO_keep 31 = .ok (.return_, 1) := by decide +kernel
theorem xnd_MO_find_0 : decode xnc_MO_find 0 = .ok (.aload_n 0, 1) := by decide +kernel
theorem xnd_MO_find_1 : decode xnc_MO_find 1 = .ok (.aload_n 0, 1) := by decide +kernel
theorem xnd_MO_find_2 : decode xnc_MO_find 2 = .ok (.getfield 45, 3) := by decide +kernel
theorem xnd_MO_find_5 : decode xnc_MO_find 5 = .ok (.iload_n 1, 1) := by decide +kernel
theorem xnd_MO_find_6 : decode xnc_MO_find 6 = .ok (.iaload, 1) := by decide +kernel
theorem xnd_MO_find_7 : decode xnc_MO_find 7 = .ok (.iload_n 2, 1) := by decide +kernel
theorem xnd_MO_find_8 : decode xnc_MO_find 8 = .ok (.iconst 2, 1) := by decide +kernel
theorem xnd_MO_find_9 : decode xnc_MO_find 9 = .ok (.isub, 1) := by decide +kernel
theorem xnd_MO_find_10 : decode xnc_MO_find 10 = .ok (.invokevirtual 93, 3) := by decide +kernel
theorem xnd_MO_find_13 : decode xnc_MO_find 13 = .ok (.istore_n 3, 1) := by decide +kernel
theorem xnd_MO_find_14 : decode xnc_MO_find 14 = .ok (.aload_n 0, 1) := by decide +kernel
theorem xnd_MO_find_15 : decode xnc_MO_find 15 = .ok (.getfield 54, 3) := by decide +kernel
theorem xnd_MO_find_18 : decode xnc_MO_find 18 = .ok (.iload_n 1, 1) := by decide +kernel
theorem xnd_MO_find_19 : decode xnc_MO_find 19 = .ok (.iload_n 3, 1) := by decide +kernel
theorem xnd_MO_find_20 : decode xnc_MO_find 20 = .ok (.ifCond .ge 7, 3) := by decide +kernel
theorem xnd_MO_find_23 : decode xnc_MO_find 23 = .ok (.iconst 0, 1) := by decide +kernel
theorem xnd_MO_find_24 : decode xnc_MO_find 24 = .ok (.goto 9, 3) := by decide +kernel
theorem xnd_MO_find_27 : decode xnc_MO_find 27 = .ok (.aload_n 0, 1) := by decide +kernel
theorem xnd_MO_find_28 : decode xnc_MO_find 28 = .ok (.getfield 7, 3) := by decide +kernel
theorem xnd_MO_find_31 : decode xnc_MO_find 31 = .ok (.iload_n 3, 1) := by decide +kernel
theorem xnd_MO_find_32 : decode xnc_MO_find 32 = .ok (.iaload, 1) := by decide +kernel
theorem xnd_MO_find_33 : decode xnc_MO_find 33 = .ok (.iastore, 1) := by decide +kernel
theorem xnd_MO_find_34 : decode xnc_MO_find 34 = .ok (.aload_n 0, 1) := by decide +kernel
theorem xnd_MO_find_35 : decode xnc_MO_find 35 = .ok (.getfield 42, 3) := by decide +kernel
theorem xnd_MO_find_38 : decode xnc_MO_find 38 = .ok (.iload_n 1, 1) := by decide +kernel
theorem xnd_MO_find_39 : decode xnc_MO_find 39 = .ok (.iload_n 3, 1) := by decide +kernel
theorem xnd_MO_find_40 : decode xnc_MO_find 40 = .ok (.ifCond .lt 7, 3) := by decide +kernel
theorem xnd_MO_find_43 : decode xnc_MO_find 43 = .ok (.iconst 4, 1) := by decide +kernel
theorem xnd_MO_find_44 : decode xnc_MO_find 44 = .ok (.goto 13, 3) := by decide +kernel
theorem xnd_MO_find_47 : decode xnc_MO_find 47 = .ok (.iload_n 2, 1) := by decide +kernel
theorem xnd_MO_find_48 : decode xnc_MO_find 48 = .ok (.iconst 2, 1) := by decide +kernel
theorem xnd_MO_find_49 : decode xnc_MO_find 49 = .ok (.if_icmp .ne 7, 3) := by decide +kernel
theorem xnd_MO_find_52 : decode xnc_MO_find 52 = .ok (.iconst 3, 1) := by decide +kernel
theorem xnd_MO_find_53 : decode xnc_MO_find 53 = .ok (.goto 4, 3) := by decide +kernel
theorem xnd_MO_find_56 : decode xnc_MO_find 56 = .ok (.iconst 5, 1) := by decide +kernel
theorem xnd_MO_find_57 : decode xnc_MO_find 57 = .ok (.iastore, 1) := by decide +kernel
theorem xnd_MO_find_58 : decode xnc_MO_find 58 = .ok (.return_, 1) := by decide +kernel
theorem xnd_MO_copy_0 : decode xnc_MO_copy 0 = .ok (.aload_n 0, 1) := by decide +kernel
theorem xnd_MO_copy_1 : decode xnc_MO_copy 1 = .ok (.getfield 54, 3) := by decide +kernel
theorem xnd_MO_copy_4 : decode xnc_MO_copy 4 = .ok (.iload_n 1, 1) := by decide +kernel
theorem xnd_MO_copy_5 : decode xnc_MO_copy 5 = .ok (.iaload, 1) := by decide +kernel
theorem xnd_MO_copy_6 : decode xnc_MO_copy 6 = .ok (.iconst 1, 1) := by decide +kernel
theorem xnd_MO_copy_7 : decode xnc_MO_copy 7 = .ok (.isub, 1) := by decide +kernel
theorem xnd_MO_copy_8 : decode xnc_MO_copy 8 = .ok (.istore_n 2, 1) := by decide +kernel
theorem xnd_MO_copy_9 : decode xnc_MO_copy 9 = .ok (.aload_n 0, 1) := by decide +kernel
theorem xnd_MO_copy_10 : decode xnc_MO_copy 10 = .ok (.getfield 57, 3) := by decide +kernel
theorem xnd_MO_copy_13 : decode xnc_MO_copy 13 = .ok (.iload_n 1, 1) := by decide +kernel
theorem xnd_MO_copy_14 : decode xnc_MO_copy 14 = .ok (.aload_n 0, 1) := by decide +kernel
theorem xnd_MO_copy_15 : decode xnc_MO_copy 15 = .ok (.getfield 20, 3) := by decide +kernel
theorem xnd_MO_copy_18 : decode xnc_MO_copy 18 = .ok (.iload_n 2, 1) := by decide +kernel
theorem xnd_MO_copy_19 : decode xnc_MO_copy 19 = .ok (.iaload, 1) := by decide +kernel
theorem xnd_MO_copy_20 : decode xnc_MO_copy 20 = .ok (.iastore, 1) := by decide +kernel
theorem xnd_MO_copy_21 : decode xnc_MO_copy 21 = .ok (.aload_n 0, 1) := by decide +kernel
theorem xnd_MO_copy_22 : decode xnc_MO_copy 22 = .ok (.getfield 60, 3) := by decide +kernel
theorem xnd_MO_copy_25 : decode xnc_MO_copy 25 = .ok (.iload_n 1, 1) := by decide +kernel
theorem xnd_MO_copy_26 : decode xnc_MO_copy 26 = .ok (.aload_n 0, 1) := by decide +kernel
theorem xnd_MO_copy_27 : decode xnc_MO_copy 27 = .ok (.getfield 23, 3) := by decide +kernel
theorem xnd_MO_copy_30 : decode xnc_MO_copy 30 = .ok (.iload_n 2, 1) := by decide +kernel
theorem xnd_MO_copy_31 : decode xnc_MO_copy 31 = .ok (.iaload, 1) := by decide +kernel
theorem xnd_MO_copy_32 : decode xnc_MO_copy 32 = .ok (.iastore, 1) := by decide +kernel
theorem xnd_MO_copy_33 : decode xnc_MO_copy 33 = .ok (.aload_n 0, 1) := by decide +kernel
theorem xnd_MO_copy_34 : decode xnc_MO_copy 34 = .ok (.getfield 63, 3) := by decide +kernel
theorem xnd_MO_copy_37 : decode xnc_MO_copy 37 = .ok (.iload_n 1, 1) := by decide +kernel
theorem xnd_MO_copy_38 : decode xnc_MO_copy 38 = .ok (.aload_n 0, 1) := by decide +kernel
theorem xnd_MO_copy_39 : decode xnc_MO_copy 39 = .ok (.getfield 26, 3) := by decide +kernel
theorem xnd_MO_copy_42 : decode xnc_MO_copy 42 = .ok (.iload_n 2, 1) := by decide +kernel
theorem xnd_MO_copy_43 : decode xnc_MO_copy 43 = .ok (.iaload, 1) := by decide +kernel
theorem xnd_MO_copy_44 : decode xnc_MO_copy 44 = .ok (.iastore, 1) := by decide +kernel
theorem xnd_MO_copy_45 : decode xnc_MO_copy 45 = .ok (.aload_n 0, 1) := by decide +kernel
theorem xnd_MO_copy_46 : decode xnc_MO_copy 46 = .ok (.getfield 42, 3) := by decide +kernel
theorem xnd_MO_copy_49 : decode xnc_MO_copy 49 = .ok (.iload_n 1, 1) := by decide +kernel
theorem xnd_MO_copy_50 : decode xnc_MO_copy 50 = .ok (.iconst 5, 1) := by decide +kernel
theorem xnd_MO_copy_51 : decode xnc_MO_copy 51 = .ok (.iastore, 1) := by decide +kernel
theorem xnd_MO_copy_52 : decode xnc_MO_copy 52 = .ok (.return_, 1) := by decide +kernel
theorem xnd_MO_check_0 : decode xnc_MO_check 0 = .ok (.aload_n 0, 1) := by decide +kernel
theorem xnd_MO_check_1 : decode xnc_MO_check 1 = .ok (.getfield 32, 3) := by decide +kernel
theorem xnd_MO_check_4 : decode xnc_MO_check 4 = .ok (.aload_n 0, 1) := by decide +kernel
theorem xnd_MO_check_5 : decode xnc_MO_check 5 = .ok (.getfield 45, 3) := by decide +kernel
theorem xnd_MO_check_8 : decode xnc_MO_check 8 = .ok (.iload_n 1, 1) := by decide +kernel
theorem xnd_MO_check_9 : decode xnc_MO_check 9 = .ok (.iaload, 1) := by decide +kernel
theorem xnd_MO_check_10 : decode xnc_MO_check 10 = .ok (.invokestatic 84, 3) := by decide +kernel
theorem xnd_MO_check_13 : decode xnc_MO_check 13 = .ok (.iaload, 1) := by decide +kernel
theorem xnd_MO_check_14 : decode xnc_MO_check 14 = .ok (.aload_n 0, 1) := by decide +kernel
theorem xnd_MO_check_15 : decode xnc_MO_check 15 = .ok (.getfield 48, 3) := by decide +kernel
theorem xnd_MO_check_18 : decode xnc_MO_check 18 = .ok (.iload_n 1, 1) := by decide +kernel
theorem xnd_MO_check_19 : decode xnc_MO_check 19 = .ok (.iaload, 1) := by decide +kernel
theorem xnd_MO_check_20 : decode xnc_MO_check 20 = .ok (.if_icmp .eq 46, 3) := by decide +kernel
theorem xnd_MO_check_23 : decode xnc_MO_check 23 = .ok (.aload_n 0, 1) := by decide +kernel
theorem xnd_MO_check_24 : decode xnc_MO_check 24 = .ok (.dup, 1) := by decide +kernel
theorem xnd_MO_check_25 : decode xnc_MO_check 25 = .ok (.getfield 209, 3) := by decide +kernel
theorem xnd_MO_check_28 : decode xnc_MO_check 28 = .ok (.iconst 1, 1) := by decide +kernel
theorem xnd_MO_check_29 : decode xnc_MO_check 29 = .ok (.iadd, 1) := by decide +kernel
theorem xnd_MO_check_30 : decode xnc_MO_check 30 = .ok (.putfield 209, 3) := by decide +kernel
theorem xnd_MO_check_33 : decode xnc_MO_check 33 = .ok (.aload_n 0, 1) := by decide +kernel
theorem xnd_MO_check_34 : decode xnc_MO_check 34 = .ok (.getfield 51, 3) := by decide +kernel
theorem xnd_MO_check_37 : decode xnc_MO_check 37 = .ok (.iload_n 1, 1) := by decide +kernel
theorem xnd_MO_check_38 : decode xnc_MO_check 38 = .ok (.dup2, 1) := by decide +kernel
theorem xnd_MO_check_39 : decode xnc_MO_check 39 = .ok (.iaload, 1) := by decide +kernel
theorem xnd_MO_check_40 : decode xnc_MO_check 40 = .ok (.iconst 1, 1) := by decide +kernel
theorem xnd_MO_check_41 : decode xnc_MO_check 41 = .ok (.iadd, 1) := by decide +kernel
theorem xnd_MO_check_42 : decode xnc_MO_check 42 = .ok (.iastore, 1) := by decide +kernel
theorem xnd_MO_check_43 : decode xnc_MO_check 43 = .ok (.aload_n 0, 1) := by decide +kernel
theorem xnd_MO_check_44 : decode xnc_MO_check 44 = .ok (.getfield 42, 3) := by decide +kernel
theorem xnd_MO_check_47 : decode xnc_MO_check 47 = .ok (.iload_n 1, 1) := by decide +kernel
theorem xnd_MO_check_48 : decode xnc_MO_check 48 = .ok (.aload_n 0, 1) := by decide +kernel
theorem xnd_MO_check_49 : decode xnc_MO_check 49 = .ok (.getfield 51, 3) := by decide +kernel
theorem xnd_MO_check_52 : decode xnc_MO_check 52 = .ok (.iload_n 1, 1) := by decide +kernel
theorem xnd_MO_check_53 : decode xnc_MO_check 53 = .ok (.iaload, 1) := by decide +kernel
theorem xnd_MO_check_54 : decode xnc_MO_check 54 = .ok (.iconst 3, 1) := by decide +kernel
theorem xnd_MO_check_55 : decode xnc_MO_check 55 = .ok (.if_icmp .lt 8, 3) := by decide +kernel
theorem xnd_MO_check_58 : decode xnc_MO_check 58 = .ok (.bipush 6, 2) := by decide +kernel
theorem xnd_MO_check_60 : decode xnc_MO_check 60 = .ok (.goto 4, 3) := by decide +kernel
theorem xnd_MO_check_63 : decode xnc_MO_check 63 = .ok (.iconst 1, 1) := by decide +kernel
theorem xnd_MO_check_64 : decode xnc_MO_check 64 = .ok (.iastore, 1) := by decide +kernel
theorem xnd_MO_check_65 : decode xnc_MO_check 65 = .ok (.return_, 1) := by decide +kernel
theorem xnd_MO_check_66 : decode xnc_MO_check 66 = .ok (.aload_n 0, 1) := by decide +kernel
theorem xnd_MO_check_67 : decode xnc_MO_check 67 = .ok (.getfield 54, 3) := by decide +kernel
theorem xnd_MO_check_70 : decode xnc_MO_check 70 = .ok (.iload_n 1, 1) := by decide +kernel
theorem xnd_MO_check_71 : decode xnc_MO_check 71 = .ok (.iaload, 1) := by decide +kernel
theorem xnd_MO_check_72 : decode xnc_MO_check 72 = .ok (.ifCond .le 20, 3) := by decide +kernel
theorem xnd_MO_check_75 : decode xnc_MO_check 75 = .ok (.aload_n 0, 1) := by decide +kernel
theorem xnd_MO_check_76 : decode xnc_MO_check 76 = .ok (.aload_n 0, 1) := by decide +kernel
theorem xnd_MO_check_77 : decode xnc_MO_check 77 = .ok (.getfield 63, 3) := by decide +kernel
theorem xnd_MO_check_80 : decode xnc_MO_check 80 = .ok (.iload_n 1, 1) := by decide +kernel
theorem xnd_MO_check_81 : decode xnc_MO_check 81 = .ok (.iaload, 1) := by decide +kernel
theorem xnd_MO_check_82 : decode xnc_MO_check 82 = .ok (.invokevirtual 151, 3) := by decide +kernel
theorem xnd_MO_check_85 : decode xnc_MO_check 85 = .ok (.ifCond .ne 7, 3) := by decide +kernel
theorem xnd_MO_check_88 : decode xnc_MO_check 88 = .ok (.iconst 1, 1) := by decide +kernel
theorem xnd_MO_check_89 : decode xnc_MO_check 89 = .ok (.goto 4, 3) := by decide +kernel
theorem xnd_MO_check_92 : decode xnc_MO_check 92 = .ok (.iconst 0, 1) := by decide +kernel
theorem xnd_MO_check_93 : decode xnc_MO_check 93 = .ok (.istore_n 2, 1) := by decide +kernel
theorem xnd_MO_check_94 : decode xnc_MO_check 94 = .ok (.iload_n 2, 1) := by decide +kernel
theorem xnd_MO_check_95 : decode xnc_MO_check 95 = .ok (.ifCond .eq 17, 3) := by decide +kernel
theorem xnd_MO_check_98 : decode xnc_MO_check 98 = .ok (.aload_n 0, 1) := by decide +kernel
theorem xnd_MO_check_99 : decode xnc_MO_check 99 = .ok (.getfield 29, 3) := by decide +kernel
theorem xnd_MO_check_102 : decode xnc_MO_check 102 = .ok (.aload_n 0, 1) := by decide +kernel
theorem xnd_MO_check_103 : decode xnc_MO_check 103 = .ok (.getfield 54, 3) := by decide +kernel
theorem xnd_MO_check_106 : decode xnc_MO_check 106 = .ok (.iload_n 1, 1) := by decide +kernel
theorem xnd_MO_check_107 : decode xnc_MO_check 107 = .ok (.iaload, 1) := by decide +kernel
theorem xnd_MO_check_108 : decode xnc_MO_check 108 = .ok (.iconst 1, 1) := by decide +kernel
theorem xnd_MO_check_109 : decode xnc_MO_check 109 = .ok (.isub, 1) := by decide +kernel
theorem xnd_MO_check_110 : decode xnc_MO_check 110 = .ok (.iconst 1, 1) := by decide +kernel
theorem xnd_MO_check_111 : decode xnc_MO_check 111 = .ok (.bastore, 1) := by decide +kernel
theorem xnd_MO_check_112 : decode xnc_MO_check 112 = .ok (.aload_n 0, 1) := by decide +kernel
theorem xnd_MO_check_113 : decode xnc_MO_check 113 = .ok (.getfield 42, 3) := by decide +kernel
theorem xnd_MO_check_116 : decode xnc_MO_check 116 = .ok (.iload_n 1, 1) := by decide +kernel
theorem xnd_MO_check_117 : decode xnc_MO_check 117 = .ok (.iload_n 2, 1) := by decide +kernel
theorem xnd_MO_check_118 : decode xnc_MO_check 118 = .ok (.ifCond .eq 8, 3) := by decide +kernel
theorem xnd_MO_check_121 : decode xnc_MO_check 121 = .ok (.bipush 7, 2) := by decide +kernel
theorem xnd_MO_check_123 : decode xnc_MO_check 123 = .ok (.goto 5, 3) := by decide +kernel
theorem xnd_MO_check_126 : decode xnc_MO_check 126 = .ok (.bipush 8, 2) := by decide +kernel
theorem xnd_MO_check_128 : decode xnc_MO_check 128 = .ok (.iastore, 1) := by decide +kernel
theorem xnd_MO_check_129 : decode xnc_MO_check 129 = .ok (.return_, 1) := by decide +kernel
theorem xnd_MO_locked_0 : decode xnc_MO_locked 0 = .ok (.aload_n 0, 1) := by decide +kernel
theorem xnd_MO_locked_1 : decode xnc_MO_locked 1 = .ok (.getfield 99, 3) := by decide +kernel
theorem xnd_MO_locked_4 : decode xnc_MO_locked 4 = .ok (.ifCond .le 14, 3) := by decide +kernel
theorem xnd_MO_locked_7 : decode xnc_MO_locked 7 = .ok (.aload_n 0, 1) := by decide +kernel
theorem xnd_MO_locked_8 : decode xnc_MO_locked 8 = .ok (.dup, 1) := by decide +kernel
theorem xnd_MO_locked_9 : decode xnc_MO_locked 9 = .ok (.getfield 206, 3) := by decide +kernel
theorem xnd_MO_locked_12 : decode xnc_MO_locked 12 = .ok (.iconst 1, 1) := by decide +kernel
theorem xnd_MO_locked_13 : decode xnc_MO_locked 13 = .ok (.iadd, 1) := by decide +kernel
theorem xnd_MO_locked_14 : decode xnc_MO_locked 14 = .ok (.putfield 206, 3) := by decide +kernel
theorem xnd_MO_locked_17 : decode xnc_MO_locked 17 = .ok (.return_, 1) := by decide +kernel
theorem xnd_MO_locked_18 : decode xnc_MO_locked 18 = .ok (.aload_n 0, 1) := by decide +kernel
theorem xnd_MO_locked_19 : decode xnc_MO_locked 19 = .ok (.aload_n 0, 1) := by decide +kernel
theorem xnd_MO_locked_20 : decode xnc_MO_locked 20 = .ok (.getfield 45, 3) := by decide +kernel
theorem xnd_MO_locked_23 : decode xnc_MO_locked 23 = .ok (.iload_n 1, 1) := by decide +kernel
theorem xnd_MO_locked_24 : decode xnc_MO_locked 24 = .ok (.iaload, 1) := by decide +kernel
theorem xnd_MO_locked_25 : decode xnc_MO_locked 25 = .ok (.invokevirtual 148, 3) := by decide +kernel
theorem xnd_MO_locked_28 : decode xnc_MO_locked 28 = .ok (.istore_n 2, 1) := by decide +kernel
theorem xnd_MO_locked_29 : decode xnc_MO_locked 29 = .ok (.iload_n 2, 1) := by decide +kernel
theorem xnd_MO_locked_30 : decode xnc_MO_locked 30 = .ok (.ifCond .ge 7, 3) := by decide +kernel
theorem xnd_MO_locked_33 : decode xnc_MO_locked 33 = .ok (.iconst (-1), 1) := by decide +kernel
theorem xnd_MO_locked_34 : decode xnc_MO_locked 34 = .ok (.goto 11, 3) := by decide +kernel
theorem xnd_MO_locked_37 : decode xnc_MO_locked 37 = .ok (.aload_n 0, 1) := by decide +kernel
theorem xnd_MO_locked_38 : decode xnc_MO_locked 38 = .ok (.getfield 7, 3) := by decide +kernel
theorem xnd_MO_locked_41 : decode xnc_MO_locked 41 = .ok (.iload_n 2, 1) := by decide +kernel
theorem xnd_MO_locked_42 : decode xnc_MO_locked 42 = .ok (.iaload, 1) := by decide +kernel
theorem xnd_MO_locked_43 : decode xnc_MO_locked 43 = .ok (.iconst 1, 1) := by decide +kernel
theorem xnd_MO_locked_44 : decode xnc_MO_locked 44 = .ok (.isub, 1) := by decide +kernel
theorem xnd_MO_locked_45 : decode xnc_MO_locked 45 = .ok (.istore_n 3, 1) := by decide +kernel
theorem xnd_MO_locked_46 : decode xnc_MO_locked 46 = .ok (.iload_n 3, 1) := by decide +kernel
theorem xnd_MO_locked_47 : decode xnc_MO_locked 47 = .ok (.ifCond .lt 20, 3) := by decide +kernel
theorem xnd_MO_locked_50 : decode xnc_MO_locked 50 = .ok (.aload_n 0, 1) := by decide +kernel
theorem xnd_MO_locked_51 : decode xnc_MO_locked 51 = .ok (.aload_n 0, 1) := by decide +kernel
theorem xnd_MO_locked_52 : decode xnc_MO_locked 52 = .ok (.getfield 26, 3) := by decide +kernel
theorem xnd_MO_locked_55 : decode xnc_MO_locked 55 = .ok (.iload_n 3, 1) := by decide +kernel
theorem xnd_MO_locked_56 : decode xnc_MO_locked 56 = .ok (.iaload, 1) := by decide +kernel
theorem xnd_MO_locked_57 : decode xnc_MO_locked 57 = .ok (.invokevirtual 151, 3) := by decide +kernel
theorem xnd_MO_locked_60 : decode xnc_MO_locked 60 = .ok (.ifCond .ne 7, 3) := by decide +kernel
theorem xnd_MO_locked_63 : decode xnc_MO_locked 63 = .ok (.iconst 1, 1) := by decide +kernel
theorem xnd_MO_locked_64 : decode xnc_MO_locked 64 = .ok (.goto 4, 3) := by decide +kernel
theorem xnd_MO_locked_67 : decode xnc_MO_locked 67 = .ok (.iconst 0, 1) := by decide +kernel
theorem xnd_MO_locked_68 : decode xnc_MO_locked 68 = .ok (.istore 4, 2) := by decide +kernel
theorem xnd_MO_locked_70 : decode xnc_MO_locked 70 = .ok (.iload 4, 2) := by decide +kernel
theorem xnd_MO_locked_72 : decode xnc_MO_locked 72 = .ok (.ifCond .eq 34, 3) := by decide +kernel
theorem xnd_MO_locked_75 : decode xnc_MO_locked 75 = .ok (.aload_n 0, 1) := by decide +kernel
theorem xnd_MO_locked_76 : decode xnc_MO_locked 76 = .ok (.getfield 57, 3) := by decide +kernel
theorem xnd_MO_locked_79 : decode xnc_MO_locked 79 = .ok (.iload_n 1, 1) := by decide +kernel
theorem xnd_MO_locked_80 : decode xnc_MO_locked 80 = .ok (.aload_n 0, 1) := by decide +kernel
theorem xnd_MO_locked_81 : decode xnc_MO_locked 81 = .ok (.getfield 20, 3) := by decide +kernel
theorem xnd_MO_locked_84 : decode xnc_MO_locked 84 = .ok (.iload_n 3, 1) := by decide +kernel
theorem xnd_MO_locked_85 : decode xnc_MO_locked 85 = .ok (.iaload, 1) := by decide +kernel
theorem xnd_MO_locked_86 : decode xnc_MO_locked 86 = .ok (.iastore, 1) := by decide +kernel
theorem xnd_MO_locked_87 : decode xnc_MO_locked 87 = .ok (.aload_n 0, 1) := by decide +kernel
theorem xnd_MO_locked_88 : decode xnc_MO_locked 88 = .ok (.getfield 60, 3) := by decide +kernel
theorem xnd_MO_locked_91 : decode xnc_MO_locked 91 = .ok (.iload_n 1, 1) := by decide +kernel
theorem xnd_MO_locked_92 : decode xnc_MO_locked 92 = .ok (.aload_n 0, 1) := by decide +kernel
theorem xnd_MO_locked_93 : decode xnc_MO_locked 93 = .ok (.getfield 23, 3) := by decide +kernel
theorem xnd_MO_locked_96 : decode xnc_MO_locked 96 = .ok (.iload_n 3, 1) := by decide +kernel
theorem xnd_MO_locked_97 : decode xnc_MO_locked 97 = .ok (.iaload, 1) := by decide +kernel
theorem xnd_MO_locked_98 : decode xnc_MO_locked 98 = .ok (.iastore, 1) := by decide +kernel
theorem xnd_MO_locked_99 : decode xnc_MO_locked 99 = .ok (.aload_n 0, 1) := by decide +kernel
theorem xnd_MO_locked_100 : decode xnc_MO_locked 100 = .ok (.getfield 29, 3) := by decide +kernel
theorem xnd_MO_locked_103 : decode xnc_MO_locked 103 = .ok (.iload_n 3, 1) := by decide +kernel
theorem xnd_MO_locked_104 : decode xnc_MO_locked 104 = .ok (.iconst 1, 1) := by decide +kernel
theorem xnd_MO_locked_105 : decode xnc_MO_locked 105 = .ok (.bastore, 1) := by decide +kernel
theorem xnd_MO_locked_106 : decode xnc_MO_locked 106 = .ok (.aload_n 0, 1) := by decide +kernel
theorem xnd_MO_locked_107 : decode xnc_MO_locked 107 = .ok (.getfield 42, 3) := by decide +kernel
theorem xnd_MO_locked_110 : decode xnc_MO_locked 110 = .ok (.iload_n 1, 1) := by decide +kernel
theorem xnd_MO_locked_111 : decode xnc_MO_locked 111 = .ok (.iload 4, 2) := by decide +kernel
theorem xnd_MO_locked_113 : decode xnc_MO_locked 113 = .ok (.ifCond .eq 8, 3) := by decide +kernel
theorem xnd_MO_locked_116 : decode xnc_MO_locked 116 = .ok (.bipush 7, 2) := by decide +kernel
theorem xnd_MO_locked_118 : decode xnc_MO_locked 118 = .ok (.goto 5, 3) := by decide +kernel
theorem xnd_MO_locked_121 : decode xnc_MO_locked 121 = .ok (.bipush 8, 2) := by decide +kernel
theorem xnd_MO_locked_123 : decode xnc_MO_locked 123 = .ok (.iastore, 1) := by decide +kernel
theorem xnd_MO_locked_124 : decode xnc_MO_locked 124 = .ok (.return_, 1) := by decide +kernel
theorem xnd_MO_state_0 : decode xnc_MO_state 0 = .ok (.iload_n 1, 1) := by decide +kernel
theorem xnd_MO_state_1 : decode xnc_MO_state 1 = .ok (.invokestatic 184, 3) := by decide +kernel
theorem xnd_MO_state_4 : decode xnc_MO_state 4 = .ok (.ifCond .eq 12, 3) := by decide +kernel
theorem xnd_MO_state_7 : decode xnc_MO_state 7 = .ok (.aload_n 0, 1) := by decide +kernel
theorem xnd_MO_state_8 : decode xnc_MO_state 8 = .ok (.getfield 42, 3) := by decide +kernel
theorem xnd_MO_state_11 : decode xnc_MO_state 11 = .ok (.iload_n 1, 1) := by decide +kernel
theorem xnd_MO_state_12 : decode xnc_MO_state 12 = .ok (.iaload, 1) := by decide +kernel
theorem xnd_MO_state_13 : decode xnc_MO_state 13 = .ok (.goto 4, 3) := by decide +kernel
theorem xnd_MO_state_16 : decode xnc_MO_state 16 = .ok (.iconst (-1), 1) := by decide +kernel
theorem xnd_MO_state_17 : decode xnc_MO_state 17 = .ok (.ireturn, 1) := by decide +kernel
theorem xnd_MO_value_0 : decode xnc_MO_value 0 = .ok (.iload_n 1, 1) := by decide +kernel
theorem xnd_MO_value_1 : decode xnc_MO_value 1 = .ok (.invokestatic 184, 3) := by decide +kernel
theorem xnd_MO_value_4 : decode xnc_MO_value 4 = .ok (.ifCond .eq 23, 3) := by decide +kernel
theorem xnd_MO_value_7 : decode xnc_MO_value 7 = .ok (.aload_n 0, 1) := by decide +kernel
theorem xnd_MO_value_8 : decode xnc_MO_value 8 = .ok (.getfield 42, 3) := by decide +kernel
theorem xnd_MO_value_11 : decode xnc_MO_value 11 = .ok (.iload_n 1, 1) := by decide +kernel
theorem xnd_MO_value_12 : decode xnc_MO_value 12 = .ok (.iaload, 1) := by decide +kernel
theorem xnd_MO_value_13 : decode xnc_MO_value 13 = .ok (.bipush 7, 2) := by decide +kernel
theorem xnd_MO_value_15 : decode xnc_MO_value 15 = .ok (.if_icmp .ne 12, 3) := by decide +kernel
theorem xnd_MO_value_18 : decode xnc_MO_value 18 = .ok (.aload_n 0, 1) := by decide +kernel
theorem xnd_MO_value_19 : decode xnc_MO_value 19 = .ok (.getfield 57, 3) := by decide +kernel
theorem xnd_MO_value_22 : decode xnc_MO_value 22 = .ok (.iload_n 1, 1) := by decide +kernel
theorem xnd_MO_value_23 : decode xnc_MO_value 23 = .ok (.iaload, 1) := by decide +kernel
theorem xnd_MO_value_24 : decode xnc_MO_value 24 = .ok (.goto 4, 3) := by decide +kernel
theorem xnd_MO_value_27 : decode xnc_MO_value 27 = .ok (.iconst 0, 1) := by decide +kernel
theorem xnd_MO_value_28 : decode xnc_MO_value 28 = .ok (.ireturn, 1) := by decide +kernel
theorem xnd_MO_token_0 : decode xnc_MO_token 0 = .ok (.iload_n 1, 1) := by decide +kernel
theorem xnd_MO_token_1 : decode xnc_MO_token 1 = .ok (.invokestatic 184, 3) := by decide +kernel
theorem xnd_MO_token_4 : decode xnc_MO_token 4 = .ok (.ifCond .eq 23, 3) := by decide +kernel
theorem xnd_MO_token_7 : decode xnc_MO_token 7 = .ok (.aload_n 0, 1) := by decide +kernel
theorem xnd_MO_token_8 : decode xnc_MO_token 8 = .ok (.getfield 42, 3) := by decide +kernel
theorem xnd_MO_token_11 : decode xnc_MO_token 11 = .ok (.iload_n 1, 1) := by decide +kernel
theorem xnd_MO_token_12 : decode xnc_MO_token 12 = .ok (.iaload, 1) := by decide +kernel
theorem xnd_MO_token_13 : decode xnc_MO_token 13 = .ok (.bipush 7, 2) := by decide +kernel
theorem xnd_MO_token_15 : decode xnc_MO_token 15 = .ok (.if_icmp .ne 12, 3) := by decide +kernel
theorem xnd_MO_token_18 : decode xnc_MO_token 18 = .ok (.aload_n 0, 1) := by decide +kernel
theorem xnd_MO_token_19 : decode xnc_MO_token 19 = .ok (.getfield 60, 3) := by decide +kernel
theorem xnd_MO_token_22 : decode xnc_MO_token 22 = .ok (.iload_n 1, 1) := by decide +kernel
theorem xnd_MO_token_23 : decode xnc_MO_token 23 = .ok (.iaload, 1) := by decide +kernel
theorem xnd_MO_token_24 : decode xnc_MO_token 24 = .ok (.goto 4, 3) := by decide +kernel
theorem xnd_MO_token_27 : decode xnc_MO_token 27 = .ok (.iconst 0, 1) := by decide +kernel
theorem xnd_MO_token_28 : decode xnc_MO_token 28 = .ok (.ireturn, 1) := by decide +kernel
theorem xnd_MO_pass_0 : decode xnc_MO_pass 0 = .ok (.iload_n 1, 1) := by decide +kernel
theorem xnd_MO_pass_1 : decode xnc_MO_pass 1 = .ok (.iconst 1, 1) := by decide +kernel
theorem xnd_MO_pass_2 : decode xnc_MO_pass 2 = .ok (.if_icmp .lt 10, 3) := by decide +kernel
theorem xnd_MO_pass_5 : decode xnc_MO_pass 5 = .ok (.iload_n 1, 1) := by decide +kernel
theorem xnd_MO_pass_6 : decode xnc_MO_pass 6 = .ok (.sipush 1000, 3) := by decide +kernel
theorem xnd_MO_pass_9 : decode xnc_MO_pass 9 = .ok (.if_icmp .le 5, 3) := by decide +kernel
theorem xnd_MO_pass_12 : decode xnc_MO_pass 12 = .ok (.iconst 0, 1) := by decide +kernel
theorem xnd_MO_pass_13 : decode xnc_MO_pass 13 = .ok (.ireturn, 1) := by decide +kernel
theorem xnd_MO_pass_14 : decode xnc_MO_pass 14 = .ok (.aload_n 0, 1) := by decide +kernel
theorem xnd_MO_pass_15 : decode xnc_MO_pass 15 = .ok (.dup, 1) := by decide +kernel
theorem xnd_MO_pass_16 : decode xnc_MO_pass 16 = .ok (.getfield 96, 3) := by decide +kernel
theorem xnd_MO_pass_19 : decode xnc_MO_pass 19 = .ok (.iload_n 1, 1) := by decide +kernel
theorem xnd_MO_pass_20 : decode xnc_MO_pass 20 = .ok (.iadd, 1) := by decide +kernel
theorem xnd_MO_pass_21 : decode xnc_MO_pass 21 = .ok (.putfield 96, 3) := by decide +kernel
theorem xnd_MO_pass_24 : decode xnc_MO_pass 24 = .ok (.iconst 1, 1) := by decide +kernel
theorem xnd_MO_pass_25 : decode xnc_MO_pass 25 = .ok (.ireturn, 1) := by decide +kernel
theorem xnd_MO_at_0 : decode xnc_MO_at 0 = .ok (.iload_n 1, 1) := by decide +kernel
theorem xnd_MO_at_1 : decode xnc_MO_at 1 = .ok (.ifCond .lt 25, 3) := by decide +kernel
theorem xnd_MO_at_4 : decode xnc_MO_at 4 = .ok (.iload_n 1, 1) := by decide +kernel
theorem xnd_MO_at_5 : decode xnc_MO_at 5 = .ok (.bipush 8, 2) := by decide +kernel
theorem xnd_MO_at_7 : decode xnc_MO_at 7 = .ok (.aload_n 0, 1) := by decide +kernel
theorem xnd_MO_at_8 : decode xnc_MO_at 8 = .ok (.getfield 69, 3) := by decide +kernel
theorem xnd_MO_at_11 : decode xnc_MO_at 11 = .ok (.imul, 1) := by decide +kernel
theorem xnd_MO_at_12 : decode xnc_MO_at 12 = .ok (.if_icmp .ge 14, 3) := by decide +kernel
theorem xnd_MO_at_15 : decode xnc_MO_at 15 = .ok (.aload_n 0, 1) := by decide +kernel
theorem xnd_MO_at_16 : decode xnc_MO_at 16 = .ok (.getfield 7, 3) := by decide +kernel
theorem xnd_MO_at_19 : decode xnc_MO_at 19 = .ok (.iload_n 1, 1) := by decide +kernel
theorem xnd_MO_at_20 : decode xnc_MO_at 20 = .ok (.iaload, 1) := by decide +kernel
theorem xnd_MO_at_21 : decode xnc_MO_at 21 = .ok (.iconst 1, 1) := by decide +kernel
theorem xnd_MO_at_22 : decode xnc_MO_at 22 = .ok (.isub, 1) := by decide +kernel
theorem xnd_MO_at_23 : decode xnc_MO_at 23 = .ok (.goto 4, 3) := by decide +kernel
theorem xnd_MO_at_26 : decode xnc_MO_at 26 = .ok (.iconst (-1), 1) := by decide +kernel
theorem xnd_MO_at_27 : decode xnc_MO_at 27 = .ok (.ireturn, 1) := by decide +kernel
theorem xnd_MO_used_0 : decode xnc_MO_used 0 = .ok (.iload_n 1, 1) := by decide +kernel
theorem xnd_MO_used_1 : decode xnc_MO_used 1 = .ok (.ifCond .lt 24, 3) := by decide +kernel
theorem xnd_MO_used_4 : decode xnc_MO_used 4 = .ok (.iload_n 1, 1) := by decide +kernel
theorem xnd_MO_used_5 : decode xnc_MO_used 5 = .ok (.aload_n 0, 1) := by decide +kernel
theorem xnd_MO_used_6 : decode xnc_MO_used 6 = .ok (.getfield 66, 3) := by decide +kernel
theorem xnd_MO_used_9 : decode xnc_MO_used 9 = .ok (.if_icmp .ge 16, 3) := by decide +kernel
theorem xnd_MO_used_12 : decode xnc_MO_used 12 = .ok (.aload_n 0, 1) := by decide +kernel
theorem xnd_MO_used_13 : decode xnc_MO_used 13 = .ok (.getfield 13, 3) := by decide +kernel
theorem xnd_MO_used_16 : decode xnc_MO_used 16 = .ok (.iload_n 1, 1) := by decide +kernel
theorem xnd_MO_used_17 : decode xnc_MO_used 17 = .ok (.baload, 1) := by decide +kernel
theorem xnd_MO_used_18 : decode xnc_MO_used 18 = .ok (.ifCond .eq 7, 3) := by decide +kernel
theorem xnd_MO_used_21 : decode xnc_MO_used 21 = .ok (.iconst 1, 1) := by decide +kernel
theorem xnd_MO_used_22 : decode xnc_MO_used 22 = .ok (.goto 4, 3) := by decide +kernel
theorem xnd_MO_used_25 : decode xnc_MO_used 25 = .ok (.iconst 0, 1) := by decide +kernel
theorem xnd_MO_used_26 : decode xnc_MO_used 26 = .ok (.ireturn, 1) := by decide +kernel
theorem xnd_MO_item_0 : decode xnc_MO_item 0 = .ok (.iload_n 1, 1) := by decide +kernel
theorem xnd_MO_item_1 : decode xnc_MO_item 1 = .ok (.ifCond .lt 20, 3) := by decide +kernel
theorem xnd_MO_item_4 : decode xnc_MO_item 4 = .ok (.iload_n 1, 1) := by decide +kernel
theorem xnd_MO_item_5 : decode xnc_MO_item 5 = .ok (.aload_n 0, 1) := by decide +kernel
theorem xnd_MO_item_6 : decode xnc_MO_item 6 = .ok (.getfield 66, 3) := by decide +kernel
theorem xnd_MO_item_9 : decode xnc_MO_item 9 = .ok (.if_icmp .ge 12, 3) := by decide +kernel
theorem xnd_MO_item_12 : decode xnc_MO_item 12 = .ok (.aload_n 0, 1) := by decide +kernel
theorem xnd_MO_item_13 : decode xnc_MO_item 13 = .ok (.getfield 13, 3) := by decide +kernel
theorem xnd_MO_item_16 : decode xnc_MO_item 16 = .ok (.iload_n 1, 1) := by decide +kernel
theorem xnd_MO_item_17 : decode xnc_MO_item 17 = .ok (.baload, 1) := by decide +kernel
theorem xnd_MO_item_18 : decode xnc_MO_item 18 = .ok (.ifCond .ne 5, 3) := by decide +kernel
theorem xnd_MO_item_21 : decode xnc_MO_item 21 = .ok (.iconst 0, 1) := by decide +kernel
theorem xnd_MO_item_22 : decode xnc_MO_item 22 = .ok (.ireturn, 1) := by decide +kernel
theorem xnd_MO_item_23 : decode xnc_MO_item 23 = .ok (.iload_n 2, 1) := by decide +kernel
theorem xnd_MO_item_24 : decode xnc_MO_item 24 = .ok (.tableswitch 79 0 4 #[36, 43, 50, 57, 64], 36) := by decide +kernel
theorem xnd_MO_item_60 : decode xnc_MO_item 60 = .ok (.aload_n 0, 1) := by decide +kernel
theorem xnd_MO_item_61 : decode xnc_MO_item 61 = .ok (.getfield 17, 3) := by decide +kernel
theorem xnd_MO_item_64 : decode xnc_MO_item 64 = .ok (.iload_n 1, 1) := by decide +kernel
theorem xnd_MO_item_65 : decode xnc_MO_item 65 = .ok (.iaload, 1) := by decide +kernel
theorem xnd_MO_item_66 : decode xnc_MO_item 66 = .ok (.ireturn, 1) := by decide +kernel
theorem xnd_MO_item_67 : decode xnc_MO_item 67 = .ok (.aload_n 0, 1) := by decide +kernel
theorem xnd_MO_item_68 : decode xnc_MO_item 68 = .ok (.getfield 20, 3) := by decide +kernel
theorem xnd_MO_item_71 : decode xnc_MO_item 71 = .ok (.iload_n 1, 1) := by decide +kernel
theorem xnd_MO_item_72 : decode xnc_MO_item 72 = .ok (.iaload, 1) := by decide +kernel
theorem xnd_MO_item_73 : decode xnc_MO_item 73 = .ok (.ireturn, 1) := by decide +kernel
theorem xnd_MO_item_74 : decode xnc_MO_item 74 = .ok (.aload_n 0, 1) := by decide +kernel
theorem xnd_MO_item_75 : decode xnc_MO_item 75 = .ok (.getfield 23, 3) := by decide +kernel
theorem xnd_MO_item_78 : decode xnc_MO_item 78 = .ok (.iload_n 1, 1) := by decide +kernel
theorem xnd_MO_item_79 : decode xnc_MO_item 79 = .ok (.iaload, 1) := by decide +kernel
theorem xnd_MO_item_80 : decode xnc_MO_item 80 = .ok (.ireturn, 1) := by decide +kernel
theorem xnd_MO_item_81 : decode xnc_MO_item 81 = .ok (.aload_n 0, 1) := by decide +kernel
theorem xnd_MO_item_82 : decode xnc_MO_item 82 = .ok (.getfield 26, 3) := by decide +kernel
theorem xnd_MO_item_85 : decode xnc_MO_item 85 = .ok (.iload_n 1, 1) := by decide +kernel
theorem xnd_MO_item_86 : decode xnc_MO_item 86 = .ok (.iaload, 1) := by decide +kernel
theorem xnd_MO_item_87 : decode xnc_MO_item 87 = .ok (.ireturn, 1) := by decide +kernel
theorem xnd_MO_item_88 : decode xnc_MO_item 88 = .ok (.aload_n 0, 1) := by decide +kernel
theorem xnd_MO_item_89 : decode xnc_MO_item 89 = .ok (.getfield 29, 3) := by decide +kernel
theorem xnd_MO_item_92 : decode xnc_MO_item 92 = .ok (.iload_n 1, 1) := by decide +kernel
theorem xnd_MO_item_93 : decode xnc_MO_item 93 = .ok (.baload, 1) := by decide +kernel
theorem xnd_MO_item_94 : decode xnc_MO_item 94 = .ok (.ifCond .eq 7, 3) := by decide +kernel
theorem xnd_MO_item_97 : decode xnc_MO_item 97 = .ok (.iconst 1, 1) := by decide +kernel
theorem xnd_MO_item_98 : decode xnc_MO_item 98 = .ok (.goto 4, 3) := by decide +kernel
theorem xnd_MO_item_101 : decode xnc_MO_item 101 = .ok (.iconst 0, 1) := by decide +kernel
theorem xnd_MO_item_102 : decode xnc_MO_item 102 = .ok (.ireturn, 1) := by decide +kernel
theorem xnd_MO_item_103 : decode xnc_MO_item 103 = .ok (.iconst 0, 1) := by decide +kernel
theorem xnd_MO_item_104 : decode xnc_MO_item 104 = .ok (.ireturn, 1) := by decide +kernel
theorem xnd_MO_version_0 : decode xnc_MO_version 0 = .ok (.iload_n 1, 1) := by decide +kernel
theorem xnd_MO_version_1 : decode xnc_MO_version 1 = .ok (.ifCond .lt 17, 3) := by decide +kernel
theorem xnd_MO_version_4 : decode xnc_MO_version 4 = .ok (.iload_n 1, 1) := by decide +kernel
theorem xnd_MO_version_5 : decode xnc_MO_version 5 = .ok (.iconst 3, 1) := by decide +kernel
theorem xnd_MO_version_6 : decode xnc_MO_version 6 = .ok (.if_icmp .gt 12, 3) := by decide +kernel
theorem xnd_MO_version_9 : decode xnc_MO_version 9 = .ok (.aload_n 0, 1) := by decide +kernel
theorem xnd_MO_version_10 : decode xnc_MO_version 10 = .ok (.getfield 32, 3) := by decide +kernel
theorem xnd_MO_version_13 : decode xnc_MO_version 13 = .ok (.iload_n 1, 1) := by decide +kernel
theorem xnd_MO_version_14 : decode xnc_MO_version 14 = .ok (.iaload, 1) := by decide +kernel
theorem xnd_MO_version_15 : decode xnc_MO_version 15 = .ok (.goto 4, 3) := by decide +kernel
theorem xnd_MO_version_18 : decode xnc_MO_version 18 = .ok (.iconst (-1), 1) := by decide +kernel
theorem xnd_MO_version_19 : decode xnc_MO_version 19 = .ok (.ireturn, 1) := by decide +kernel
theorem xnd_MO_count_0 : decode xnc_MO_count 0 = .ok (.iload_n 1, 1) := by decide +kernel
theorem xnd_MO_count_1 : decode xnc_MO_count 1 = .ok (.tableswitch 105 0 9 #[55, 60, 65, 70, 75, 80, 85, 90, 95, 100], 55) := by decide +kernel
theorem xnd_MO_count_56 : decode xnc_MO_count 56 = .ok (.aload_n 0, 1) := by decide +kernel
theorem xnd_MO_count_57 : decode xnc_MO_count 57 = .ok (.invokevirtual 161, 3) := by decide +kernel
theorem xnd_MO_count_60 : decode xnc_MO_count 60 = .ok (.ireturn, 1) := by decide +kernel
theorem xnd_MO_count_61 : decode xnc_MO_count 61 = .ok (.aload_n 0, 1) := by decide +kernel
theorem xnd_MO_count_62 : decode xnc_MO_count 62 = .ok (.getfield 168, 3) := by decide +kernel
theorem xnd_MO_count_65 : decode xnc_MO_count 65 = .ok (.ireturn, 1) := by decide +kernel
theorem xnd_MO_count_66 : decode xnc_MO_count 66 = .ok (.aload_n 0, 1) := by decide +kernel
theorem xnd_MO_count_67 : decode xnc_MO_count 67 = .ok (.getfield 181, 3) := by decide +kernel
theorem xnd_MO_count_70 : decode xnc_MO_count 70 = .ok (.ireturn, 1) := by decide +kernel
theorem xnd_MO_count_71 : decode xnc_MO_count 71 = .ok (.aload_n 0, 1) := by decide +kernel
theorem xnd_MO_count_72 : decode xnc_MO_count 72 = .ok (.getfield 209, 3) := by decide +kernel
theorem xnd_MO_count_75 : decode xnc_MO_count 75 = .ok (.ireturn, 1) := by decide +kernel
theorem xnd_MO_count_76 : decode xnc_MO_count 76 = .ok (.aload_n 0, 1) := by decide +kernel
theorem xnd_MO_count_77 : decode xnc_MO_count 77 = .ok (.getfield 206, 3) := by decide +kernel
theorem xnd_MO_count_80 : decode xnc_MO_count 80 = .ok (.ireturn, 1) := by decide +kernel
theorem xnd_MO_count_81 : decode xnc_MO_count 81 = .ok (.aload_n 0, 1) := by decide +kernel
theorem xnd_MO_count_82 : decode xnc_MO_count 82 = .ok (.getfield 90, 3) := by decide +kernel
theorem xnd_MO_count_85 : decode xnc_MO_count 85 = .ok (.ireturn, 1) := by decide +kernel
theorem xnd_MO_count_86 : decode xnc_MO_count 86 = .ok (.aload_n 0, 1) := by decide +kernel
theorem xnd_MO_count_87 : decode xnc_MO_count 87 = .ok (.getfield 158, 3) := by decide +kernel
theorem xnd_MO_count_90 : decode xnc_MO_count 90 = .ok (.ireturn, 1) := by decide +kernel
theorem xnd_MO_count_91 : decode xnc_MO_count 91 = .ok (.aload_n 0, 1) := by decide +kernel
theorem xnd_MO_count_92 : decode xnc_MO_count 92 = .ok (.getfield 96, 3) := by decide +kernel
theorem xnd_MO_count_95 : decode xnc_MO_count 95 = .ok (.ireturn, 1) := by decide +kernel
theorem xnd_MO_count_96 : decode xnc_MO_count 96 = .ok (.aload_n 0, 1) := by decide +kernel
theorem xnd_MO_count_97 : decode xnc_MO_count 97 = .ok (.getfield 165, 3) := by decide +kernel
theorem xnd_MO_count_100 : decode xnc_MO_count 100 = .ok (.ireturn, 1) := by decide +kernel
theorem xnd_MO_count_101 : decode xnc_MO_count 101 = .ok (.aload_n 0, 1) := by decide +kernel
theorem xnd_MO_count_102 : decode xnc_MO_count 102 = .ok (.getfield 145, 3) := by decide +kernel
theorem xnd_MO_count_105 : decode xnc_MO_count 105 = .ok (.ireturn, 1) := by decide +kernel
theorem xnd_MO_count_106 : decode xnc_MO_count 106 = .ok (.iconst (-1), 1) := by decide +kernel
theorem xnd_MO_count_107 : decode xnc_MO_count 107 = .ok (.ireturn, 1) := by decide +kernel
