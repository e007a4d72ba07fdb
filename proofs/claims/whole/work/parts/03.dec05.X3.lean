theorem dX3_init_0 : decode cX3_init 0 = .ok (.aload_n 0, 1) := by decide +kernel
theorem dX3_init_1 : decode cX3_init 1 = .ok (.invokespecial 3, 3) := by decide +kernel
theorem dX3_init_4 : decode cX3_init 4 = .ok (.aload_n 0, 1) := by decide +kernel
theorem dX3_init_5 : decode cX3_init 5 = .ok (.bipush 120, 2) := by decide +kernel
theorem dX3_init_7 : decode cX3_init 7 = .ok (.newarray .byte, 2) := by decide +kernel
theorem dX3_init_9 : decode cX3_init 9 = .ok (.putfield 9, 3) := by decide +kernel
theorem dX3_init_12 : decode cX3_init 12 = .ok (.aload_n 0, 1) := by decide +kernel
theorem dX3_init_13 : decode cX3_init 13 = .ok (.bipush 10, 2) := by decide +kernel
theorem dX3_init_15 : decode cX3_init 15 = .ok (.anewarray 15, 3) := by decide +kernel
theorem dX3_init_18 : decode cX3_init 18 = .ok (.putfield 17, 3) := by decide +kernel
theorem dX3_init_21 : decode cX3_init 21 = .ok (.iconst 0, 1) := by decide +kernel
theorem dX3_init_22 : decode cX3_init 22 = .ok (.istore_n 1, 1) := by decide +kernel
theorem dX3_init_23 : decode cX3_init 23 = .ok (.iload_n 1, 1) := by decide +kernel
theorem dX3_init_24 : decode cX3_init 24 = .ok (.bipush 10, 2) := by decide +kernel
theorem dX3_init_26 : decode cX3_init 26 = .ok (.if_icmp .ge 22, 3) := by decide +kernel
theorem dX3_init_29 : decode cX3_init 29 = .ok (.aload_n 0, 1) := by decide +kernel
theorem dX3_init_30 : decode cX3_init 30 = .ok (.getfield 17, 3) := by decide +kernel
theorem dX3_init_33 : decode cX3_init 33 = .ok (.iload_n 1, 1) := by decide +kernel
theorem dX3_init_34 : decode cX3_init 34 = .ok (.new 15, 3) := by decide +kernel
theorem dX3_init_37 : decode cX3_init 37 = .ok (.dup, 1) := by decide +kernel
theorem dX3_init_38 : decode cX3_init 38 = .ok (.invokespecial 21, 3) := by decide +kernel
theorem dX3_init_41 : decode cX3_init 41 = .ok (.aastore, 1) := by decide +kernel
theorem dX3_init_42 : decode cX3_init 42 = .ok (.iinc 1 1, 3) := by decide +kernel
theorem dX3_init_45 : decode cX3_init 45 = .ok (.goto (-22), 3) := by decide +kernel
theorem dX3_init_48 : decode cX3_init 48 = .ok (.return_, 1) := by decide +kernel
theorem dX3_append_0 : decode cX3_append 0 = .ok (.aload_n 0, 1) := by decide +kernel
theorem dX3_append_1 : decode cX3_append 1 = .ok (.getfield 22, 3) := by decide +kernel
theorem dX3_append_4 : decode cX3_append 4 = .ok (.bipush 120, 2) := by decide +kernel
theorem dX3_append_6 : decode cX3_append 6 = .ok (.if_icmp .ge 23, 3) := by decide +kernel
theorem dX3_append_9 : decode cX3_append 9 = .ok (.aload_n 0, 1) := by decide +kernel
theorem dX3_append_10 : decode cX3_append 10 = .ok (.getfield 9, 3) := by decide +kernel
theorem dX3_append_13 : decode cX3_append 13 = .ok (.aload_n 0, 1) := by decide +kernel
theorem dX3_append_14 : decode cX3_append 14 = .ok (.getfield 22, 3) := by decide +kernel
theorem dX3_append_17 : decode cX3_append 17 = .ok (.iload_n 1, 1) := by decide +kernel
theorem dX3_append_18 : decode cX3_append 18 = .ok (.bastore, 1) := by decide +kernel
theorem dX3_append_19 : decode cX3_append 19 = .ok (.aload_n 0, 1) := by decide +kernel
theorem dX3_append_20 : decode cX3_append 20 = .ok (.dup, 1) := by decide +kernel
theorem dX3_append_21 : decode cX3_append 21 = .ok (.getfield 22, 3) := by decide +kernel
theorem dX3_append_24 : decode cX3_append 24 = .ok (.iconst 1, 1) := by decide +kernel
theorem dX3_append_25 : decode cX3_append 25 = .ok (.iadd, 1) := by decide +kernel
theorem dX3_append_26 : decode cX3_append 26 = .ok (.putfield 22, 3) := by decide +kernel
theorem dX3_append_29 : decode cX3_append 29 = .ok (.return_, 1) := by decide +kernel
theorem dX3_readAll_0 : decode cX3_readAll 0 = .ok (.aload_n 0, 1) := by decide +kernel
theorem dX3_readAll_1 : decode cX3_readAll 1 = .ok (.iconst 0, 1) := by decide +kernel
theorem dX3_readAll_2 : decode cX3_readAll 2 = .ok (.putfield 26, 3) := by decide +kernel
theorem dX3_readAll_5 : decode cX3_readAll 5 = .ok (.aload_n 0, 1) := by decide +kernel
theorem dX3_readAll_6 : decode cX3_readAll 6 = .ok (.iconst (-1), 1) := by decide +kernel
theorem dX3_readAll_7 : decode cX3_readAll 7 = .ok (.putfield 29, 3) := by decide +kernel
theorem dX3_readAll_10 : decode cX3_readAll 10 = .ok (.aload_n 0, 1) := by decide +kernel
theorem dX3_readAll_11 : decode cX3_readAll 11 = .ok (.iconst 0, 1) := by decide +kernel
theorem dX3_readAll_12 : decode cX3_readAll 12 = .ok (.putfield 32, 3) := by decide +kernel
theorem dX3_readAll_15 : decode cX3_readAll 15 = .ok (.iconst 0, 1) := by decide +kernel
theorem dX3_readAll_16 : decode cX3_readAll 16 = .ok (.istore_n 2, 1) := by decide +kernel
theorem dX3_readAll_17 : decode cX3_readAll 17 = .ok (.iload_n 2, 1) := by decide +kernel
theorem dX3_readAll_18 : decode cX3_readAll 18 = .ok (.bipush 10, 2) := by decide +kernel
theorem dX3_readAll_20 : decode cX3_readAll 20 = .ok (.if_icmp .gt 61, 3) := by decide +kernel
theorem dX3_readAll_23 : decode cX3_readAll 23 = .ok (.aload_n 0, 1) := by decide +kernel
theorem dX3_readAll_24 : decode cX3_readAll 24 = .ok (.iload_n 2, 1) := by decide +kernel
theorem dX3_readAll_25 : decode cX3_readAll 25 = .ok (.iload_n 1, 1) := by decide +kernel
theorem dX3_readAll_26 : decode cX3_readAll 26 = .ok (.if_icmp .ge 7, 3) := by decide +kernel
theorem dX3_readAll_29 : decode cX3_readAll 29 = .ok (.iconst 1, 1) := by decide +kernel
theorem dX3_readAll_30 : decode cX3_readAll 30 = .ok (.goto 4, 3) := by decide +kernel
theorem dX3_readAll_33 : decode cX3_readAll 33 = .ok (.iconst 0, 1) := by decide +kernel
theorem dX3_readAll_34 : decode cX3_readAll 34 = .ok (.invokevirtual 35, 3) := by decide +kernel
theorem dX3_readAll_37 : decode cX3_readAll 37 = .ok (.aload_n 0, 1) := by decide +kernel
theorem dX3_readAll_38 : decode cX3_readAll 38 = .ok (.getfield 29, 3) := by decide +kernel
theorem dX3_readAll_41 : decode cX3_readAll 41 = .ok (.iconst (-1), 1) := by decide +kernel
theorem dX3_readAll_42 : decode cX3_readAll 42 = .ok (.if_icmp .eq 4, 3) := by decide +kernel
theorem dX3_readAll_45 : decode cX3_readAll 45 = .ok (.return_, 1) := by decide +kernel
theorem dX3_readAll_46 : decode cX3_readAll 46 = .ok (.aload_n 0, 1) := by decide +kernel
theorem dX3_readAll_47 : decode cX3_readAll 47 = .ok (.invokevirtual 39, 3) := by decide +kernel
theorem dX3_readAll_50 : decode cX3_readAll 50 = .ok (.aload_n 0, 1) := by decide +kernel
theorem dX3_readAll_51 : decode cX3_readAll 51 = .ok (.getfield 42, 3) := by decide +kernel
theorem dX3_readAll_54 : decode cX3_readAll 54 = .ok (.ifCond .ne 4, 3) := by decide +kernel
theorem dX3_readAll_57 : decode cX3_readAll 57 = .ok (.return_, 1) := by decide +kernel
theorem dX3_readAll_58 : decode cX3_readAll 58 = .ok (.aload_n 0, 1) := by decide +kernel
theorem dX3_readAll_59 : decode cX3_readAll 59 = .ok (.getfield 42, 3) := by decide +kernel
theorem dX3_readAll_62 : decode cX3_readAll 62 = .ok (.iconst 3, 1) := by decide +kernel
theorem dX3_readAll_63 : decode cX3_readAll 63 = .ok (.if_icmp .eq 12, 3) := by decide +kernel
theorem dX3_readAll_66 : decode cX3_readAll 66 = .ok (.aload_n 0, 1) := by decide +kernel
theorem dX3_readAll_67 : decode cX3_readAll 67 = .ok (.aload_n 0, 1) := by decide +kernel
theorem dX3_readAll_68 : decode cX3_readAll 68 = .ok (.getfield 45, 3) := by decide +kernel
theorem dX3_readAll_71 : decode cX3_readAll 71 = .ok (.putfield 29, 3) := by decide +kernel
theorem dX3_readAll_74 : decode cX3_readAll 74 = .ok (.return_, 1) := by decide +kernel
theorem dX3_readAll_75 : decode cX3_readAll 75 = .ok (.iinc 2 1, 3) := by decide +kernel
theorem dX3_readAll_78 : decode cX3_readAll 78 = .ok (.goto (-61), 3) := by decide +kernel
theorem dX3_readAll_81 : decode cX3_readAll 81 = .ok (.return_, 1) := by decide +kernel
theorem dX3_readPhrase_0 : decode cX3_readPhrase 0 = .ok (.aload_n 0, 1) := by decide +kernel
theorem dX3_readPhrase_1 : decode cX3_readPhrase 1 = .ok (.invokevirtual 39, 3) := by decide +kernel
theorem dX3_readPhrase_4 : decode cX3_readPhrase 4 = .ok (.aload_n 0, 1) := by decide +kernel
theorem dX3_readPhrase_5 : decode cX3_readPhrase 5 = .ok (.getfield 42, 3) := by decide +kernel
theorem dX3_readPhrase_8 : decode cX3_readPhrase 8 = .ok (.iconst 1, 1) := by decide +kernel
theorem dX3_readPhrase_9 : decode cX3_readPhrase 9 = .ok (.if_icmp .ne 10, 3) := by decide +kernel
theorem dX3_readPhrase_12 : decode cX3_readPhrase 12 = .ok (.aload_n 0, 1) := by decide +kernel
theorem dX3_readPhrase_13 : decode cX3_readPhrase 13 = .ok (.invokevirtual 48, 3) := by decide +kernel
theorem dX3_readPhrase_16 : decode cX3_readPhrase 16 = .ok (.goto 4, 3) := by decide +kernel
theorem dX3_readPhrase_19 : decode cX3_readPhrase 19 = .ok (.iconst (-1), 1) := by decide +kernel
theorem dX3_readPhrase_20 : decode cX3_readPhrase 20 = .ok (.istore_n 2, 1) := by decide +kernel
theorem dX3_readPhrase_21 : decode cX3_readPhrase 21 = .ok (.iload_n 2, 1) := by decide +kernel
theorem dX3_readPhrase_22 : decode cX3_readPhrase 22 = .ok (.iconst (-1), 1) := by decide +kernel
theorem dX3_readPhrase_23 : decode cX3_readPhrase 23 = .ok (.if_icmp .eq 16, 3) := by decide +kernel
theorem dX3_readPhrase_26 : decode cX3_readPhrase 26 = .ok (.iload_n 1, 1) := by decide +kernel
theorem dX3_readPhrase_27 : decode cX3_readPhrase 27 = .ok (.ifCond .eq 12, 3) := by decide +kernel
theorem dX3_readPhrase_30 : decode cX3_readPhrase 30 = .ok (.aload_n 0, 1) := by decide +kernel
theorem dX3_readPhrase_31 : decode cX3_readPhrase 31 = .ok (.getfield 32, 3) := by decide +kernel
theorem dX3_readPhrase_34 : decode cX3_readPhrase 34 = .ok (.bipush 10, 2) := by decide +kernel
theorem dX3_readPhrase_36 : decode cX3_readPhrase 36 = .ok (.if_icmp .lt 12, 3) := by decide +kernel
theorem dX3_readPhrase_39 : decode cX3_readPhrase 39 = .ok (.aload_n 0, 1) := by decide +kernel
theorem dX3_readPhrase_40 : decode cX3_readPhrase 40 = .ok (.aload_n 0, 1) := by decide +kernel
theorem dX3_readPhrase_41 : decode cX3_readPhrase 41 = .ok (.getfield 45, 3) := by decide +kernel
theorem dX3_readPhrase_44 : decode cX3_readPhrase 44 = .ok (.putfield 29, 3) := by decide +kernel
theorem dX3_readPhrase_47 : decode cX3_readPhrase 47 = .ok (.return_, 1) := by decide +kernel
theorem dX3_readPhrase_48 : decode cX3_readPhrase 48 = .ok (.iload_n 2, 1) := by decide +kernel
theorem dX3_readPhrase_49 : decode cX3_readPhrase 49 = .ok (.ifCond .ne 7, 3) := by decide +kernel
theorem dX3_readPhrase_52 : decode cX3_readPhrase 52 = .ok (.iconst 0, 1) := by decide +kernel
theorem dX3_readPhrase_53 : decode cX3_readPhrase 53 = .ok (.goto 12, 3) := by decide +kernel
theorem dX3_readPhrase_56 : decode cX3_readPhrase 56 = .ok (.aload_n 0, 1) := by decide +kernel
theorem dX3_readPhrase_57 : decode cX3_readPhrase 57 = .ok (.getstatic 52, 3) := by decide +kernel
theorem dX3_readPhrase_60 : decode cX3_readPhrase 60 = .ok (.iload_n 2, 1) := by decide +kernel
theorem dX3_readPhrase_61 : decode cX3_readPhrase 61 = .ok (.iaload, 1) := by decide +kernel
theorem dX3_readPhrase_62 : decode cX3_readPhrase 62 = .ok (.invokevirtual 56, 3) := by decide +kernel
theorem dX3_readPhrase_65 : decode cX3_readPhrase 65 = .ok (.istore_n 3, 1) := by decide +kernel
theorem dX3_readPhrase_66 : decode cX3_readPhrase 66 = .ok (.aload_n 0, 1) := by decide +kernel
theorem dX3_readPhrase_67 : decode cX3_readPhrase 67 = .ok (.getfield 29, 3) := by decide +kernel
theorem dX3_readPhrase_70 : decode cX3_readPhrase 70 = .ok (.iconst (-1), 1) := by decide +kernel
theorem dX3_readPhrase_71 : decode cX3_readPhrase 71 = .ok (.if_icmp .eq 4, 3) := by decide +kernel
theorem dX3_readPhrase_74 : decode cX3_readPhrase 74 = .ok (.return_, 1) := by decide +kernel
theorem dX3_readPhrase_75 : decode cX3_readPhrase 75 = .ok (.aload_n 0, 1) := by decide +kernel
theorem dX3_readPhrase_76 : decode cX3_readPhrase 76 = .ok (.invokevirtual 39, 3) := by decide +kernel
theorem dX3_readPhrase_79 : decode cX3_readPhrase 79 = .ok (.aload_n 0, 1) := by decide +kernel
theorem dX3_readPhrase_80 : decode cX3_readPhrase 80 = .ok (.getfield 42, 3) := by decide +kernel
theorem dX3_readPhrase_83 : decode cX3_readPhrase 83 = .ok (.iconst 1, 1) := by decide +kernel
theorem dX3_readPhrase_84 : decode cX3_readPhrase 84 = .ok (.if_icmp .ne 10, 3) := by decide +kernel
theorem dX3_readPhrase_87 : decode cX3_readPhrase 87 = .ok (.aload_n 0, 1) := by decide +kernel
theorem dX3_readPhrase_88 : decode cX3_readPhrase 88 = .ok (.invokevirtual 60, 3) := by decide +kernel
theorem dX3_readPhrase_91 : decode cX3_readPhrase 91 = .ok (.goto 4, 3) := by decide +kernel
theorem dX3_readPhrase_94 : decode cX3_readPhrase 94 = .ok (.iconst (-1), 1) := by decide +kernel
theorem dX3_readPhrase_95 : decode cX3_readPhrase 95 = .ok (.istore 4, 2) := by decide +kernel
theorem dX3_readPhrase_97 : decode cX3_readPhrase 97 = .ok (.iload 4, 2) := by decide +kernel
theorem dX3_readPhrase_99 : decode cX3_readPhrase 99 = .ok (.iconst (-1), 1) := by decide +kernel
theorem dX3_readPhrase_100 : decode cX3_readPhrase 100 = .ok (.if_icmp .ne 12, 3) := by decide +kernel
theorem dX3_readPhrase_103 : decode cX3_readPhrase 103 = .ok (.aload_n 0, 1) := by decide +kernel
theorem dX3_readPhrase_104 : decode cX3_readPhrase 104 = .ok (.aload_n 0, 1) := by decide +kernel
theorem dX3_readPhrase_105 : decode cX3_readPhrase 105 = .ok (.getfield 45, 3) := by decide +kernel
theorem dX3_readPhrase_108 : decode cX3_readPhrase 108 = .ok (.putfield 29, 3) := by decide +kernel
theorem dX3_readPhrase_111 : decode cX3_readPhrase 111 = .ok (.return_, 1) := by decide +kernel
theorem dX3_readPhrase_112 : decode cX3_readPhrase 112 = .ok (.aload_n 0, 1) := by decide +kernel
theorem dX3_readPhrase_113 : decode cX3_readPhrase 113 = .ok (.iload 4, 2) := by decide +kernel
theorem dX3_readPhrase_115 : decode cX3_readPhrase 115 = .ok (.invokevirtual 63, 3) := by decide +kernel
theorem dX3_readPhrase_118 : decode cX3_readPhrase 118 = .ok (.istore 5, 2) := by decide +kernel
theorem dX3_readPhrase_120 : decode cX3_readPhrase 120 = .ok (.aload_n 0, 1) := by decide +kernel
theorem dX3_readPhrase_121 : decode cX3_readPhrase 121 = .ok (.getfield 29, 3) := by decide +kernel
theorem dX3_readPhrase_124 : decode cX3_readPhrase 124 = .ok (.iconst (-1), 1) := by decide +kernel
theorem dX3_readPhrase_125 : decode cX3_readPhrase 125 = .ok (.if_icmp .ne 22, 3) := by decide +kernel
theorem dX3_readPhrase_128 : decode cX3_readPhrase 128 = .ok (.iload 4, 2) := by decide +kernel
theorem dX3_readPhrase_130 : decode cX3_readPhrase 130 = .ok (.iconst 3, 1) := by decide +kernel
theorem dX3_readPhrase_131 : decode cX3_readPhrase 131 = .ok (.if_icmp .eq 9, 3) := by decide +kernel
theorem dX3_readPhrase_134 : decode cX3_readPhrase 134 = .ok (.iload 4, 2) := by decide +kernel
theorem dX3_readPhrase_136 : decode cX3_readPhrase 136 = .ok (.iconst 4, 1) := by decide +kernel
theorem dX3_readPhrase_137 : decode cX3_readPhrase 137 = .ok (.if_icmp .ne 10, 3) := by decide +kernel
theorem dX3_readPhrase_140 : decode cX3_readPhrase 140 = .ok (.aload_n 0, 1) := by decide +kernel
theorem dX3_readPhrase_141 : decode cX3_readPhrase 141 = .ok (.invokevirtual 66, 3) := by decide +kernel
theorem dX3_readPhrase_144 : decode cX3_readPhrase 144 = .ok (.goto 4, 3) := by decide +kernel
theorem dX3_readPhrase_147 : decode cX3_readPhrase 147 = .ok (.iconst 0, 1) := by decide +kernel
theorem dX3_readPhrase_148 : decode cX3_readPhrase 148 = .ok (.istore 6, 2) := by decide +kernel
theorem dX3_readPhrase_150 : decode cX3_readPhrase 150 = .ok (.aload_n 0, 1) := by decide +kernel
theorem dX3_readPhrase_151 : decode cX3_readPhrase 151 = .ok (.getfield 29, 3) := by decide +kernel
theorem dX3_readPhrase_154 : decode cX3_readPhrase 154 = .ok (.iconst (-1), 1) := by decide +kernel
theorem dX3_readPhrase_155 : decode cX3_readPhrase 155 = .ok (.if_icmp .ne 33, 3) := by decide +kernel
theorem dX3_readPhrase_158 : decode cX3_readPhrase 158 = .ok (.aload_n 0, 1) := by decide +kernel
theorem dX3_readPhrase_159 : decode cX3_readPhrase 159 = .ok (.getfield 17, 3) := by decide +kernel
theorem dX3_readPhrase_162 : decode cX3_readPhrase 162 = .ok (.aload_n 0, 1) := by decide +kernel
theorem dX3_readPhrase_163 : decode cX3_readPhrase 163 = .ok (.getfield 32, 3) := by decide +kernel
theorem dX3_readPhrase_166 : decode cX3_readPhrase 166 = .ok (.aaload, 1) := by decide +kernel
theorem dX3_readPhrase_167 : decode cX3_readPhrase 167 = .ok (.iload 4, 2) := by decide +kernel
theorem dX3_readPhrase_169 : decode cX3_readPhrase 169 = .ok (.iload_n 2, 1) := by decide +kernel
theorem dX3_readPhrase_170 : decode cX3_readPhrase 170 = .ok (.iload_n 3, 1) := by decide +kernel
theorem dX3_readPhrase_171 : decode cX3_readPhrase 171 = .ok (.iload 5, 2) := by decide +kernel
theorem dX3_readPhrase_173 : decode cX3_readPhrase 173 = .ok (.iload 6, 2) := by decide +kernel
theorem dX3_readPhrase_175 : decode cX3_readPhrase 175 = .ok (.invokevirtual 69, 3) := by decide +kernel
theorem dX3_readPhrase_178 : decode cX3_readPhrase 178 = .ok (.aload_n 0, 1) := by decide +kernel
theorem dX3_readPhrase_179 : decode cX3_readPhrase 179 = .ok (.dup, 1) := by decide +kernel
theorem dX3_readPhrase_180 : decode cX3_readPhrase 180 = .ok (.getfield 32, 3) := by decide +kernel
theorem dX3_readPhrase_183 : decode cX3_readPhrase 183 = .ok (.iconst 1, 1) := by decide +kernel
theorem dX3_readPhrase_184 : decode cX3_readPhrase 184 = .ok (.iadd, 1) := by decide +kernel
theorem dX3_readPhrase_185 : decode cX3_readPhrase 185 = .ok (.putfield 32, 3) := by decide +kernel
theorem dX3_readPhrase_188 : decode cX3_readPhrase 188 = .ok (.return_, 1) := by decide +kernel
theorem dX3_readFirst_0 : decode cX3_readFirst 0 = .ok (.iload_n 1, 1) := by decide +kernel
theorem dX3_readFirst_1 : decode cX3_readFirst 1 = .ok (.iconst 5, 1) := by decide +kernel
theorem dX3_readFirst_2 : decode cX3_readFirst 2 = .ok (.if_icmp .ne 5, 3) := by decide +kernel
theorem dX3_readFirst_5 : decode cX3_readFirst 5 = .ok (.iconst 0, 1) := by decide +kernel
theorem dX3_readFirst_6 : decode cX3_readFirst 6 = .ok (.ireturn, 1) := by decide +kernel
theorem dX3_readFirst_7 : decode cX3_readFirst 7 = .ok (.iload_n 1, 1) := by decide +kernel
theorem dX3_readFirst_8 : decode cX3_readFirst 8 = .ok (.iconst 2, 1) := by decide +kernel
theorem dX3_readFirst_9 : decode cX3_readFirst 9 = .ok (.if_icmp .gt 11, 3) := by decide +kernel
theorem dX3_readFirst_12 : decode cX3_readFirst 12 = .ok (.aload_n 0, 1) := by decide +kernel
theorem dX3_readFirst_13 : decode cX3_readFirst 13 = .ok (.iconst 5, 1) := by decide +kernel
theorem dX3_readFirst_14 : decode cX3_readFirst 14 = .ok (.invokevirtual 56, 3) := by decide +kernel
theorem dX3_readFirst_17 : decode cX3_readFirst 17 = .ok (.goto 7, 3) := by decide +kernel
theorem dX3_readFirst_20 : decode cX3_readFirst 20 = .ok (.aload_n 0, 1) := by decide +kernel
theorem dX3_readFirst_21 : decode cX3_readFirst 21 = .ok (.invokevirtual 66, 3) := by decide +kernel
theorem dX3_readFirst_24 : decode cX3_readFirst 24 = .ok (.ireturn, 1) := by decide +kernel
theorem dX3_readNumber_0 : decode cX3_readNumber 0 = .ok (.aload_n 0, 1) := by decide +kernel
theorem dX3_readNumber_1 : decode cX3_readNumber 1 = .ok (.invokevirtual 39, 3) := by decide +kernel
theorem dX3_readNumber_4 : decode cX3_readNumber 4 = .ok (.aload_n 0, 1) := by decide +kernel
theorem dX3_readNumber_5 : decode cX3_readNumber 5 = .ok (.iload_n 1, 1) := by decide +kernel
theorem dX3_readNumber_6 : decode cX3_readNumber 6 = .ok (.invokevirtual 73, 3) := by decide +kernel
theorem dX3_readNumber_9 : decode cX3_readNumber 9 = .ok (.ireturn, 1) := by decide +kernel
theorem dX3_readValue_0 : decode cX3_readValue 0 = .ok (.aload_n 0, 1) := by decide +kernel
theorem dX3_readValue_1 : decode cX3_readValue 1 = .ok (.invokevirtual 39, 3) := by decide +kernel
theorem dX3_readValue_4 : decode cX3_readValue 4 = .ok (.aload_n 0, 1) := by decide +kernel
theorem dX3_readValue_5 : decode cX3_readValue 5 = .ok (.getfield 42, 3) := by decide +kernel
theorem dX3_readValue_8 : decode cX3_readValue 8 = .ok (.iconst 4, 1) := by decide +kernel
theorem dX3_readValue_9 : decode cX3_readValue 9 = .ok (.if_icmp .eq 10, 3) := by decide +kernel
theorem dX3_readValue_12 : decode cX3_readValue 12 = .ok (.aload_n 0, 1) := by decide +kernel
theorem dX3_readValue_13 : decode cX3_readValue 13 = .ok (.bipush 9, 2) := by decide +kernel
theorem dX3_readValue_15 : decode cX3_readValue 15 = .ok (.invokevirtual 73, 3) := by decide +kernel
theorem dX3_readValue_18 : decode cX3_readValue 18 = .ok (.ireturn, 1) := by decide +kernel
theorem dX3_readValue_19 : decode cX3_readValue 19 = .ok (.aload_n 0, 1) := by decide +kernel
theorem dX3_readValue_20 : decode cX3_readValue 20 = .ok (.invokevirtual 39, 3) := by decide +kernel
theorem dX3_readValue_23 : decode cX3_readValue 23 = .ok (.aload_n 0, 1) := by decide +kernel
theorem dX3_readValue_24 : decode cX3_readValue 24 = .ok (.bipush 9, 2) := by decide +kernel
theorem dX3_readValue_26 : decode cX3_readValue 26 = .ok (.invokevirtual 73, 3) := by decide +kernel
theorem dX3_readValue_29 : decode cX3_readValue 29 = .ok (.ineg, 1) := by decide +kernel
theorem dX3_readValue_30 : decode cX3_readValue 30 = .ok (.ireturn, 1) := by decide +kernel
theorem dX3_numberHere_0 : decode cX3_numberHere 0 = .ok (.aload_n 0, 1) := by decide +kernel
theorem dX3_numberHere_1 : decode cX3_numberHere 1 = .ok (.getfield 42, 3) := by decide +kernel
theorem dX3_numberHere_4 : decode cX3_numberHere 4 = .ok (.iconst 2, 1) := by decide +kernel
theorem dX3_numberHere_5 : decode cX3_numberHere 5 = .ok (.if_icmp .ne 16, 3) := by decide +kernel
theorem dX3_numberHere_8 : decode cX3_numberHere 8 = .ok (.aload_n 0, 1) := by decide +kernel
theorem dX3_numberHere_9 : decode cX3_numberHere 9 = .ok (.getfield 76, 3) := by decide +kernel
theorem dX3_numberHere_12 : decode cX3_numberHere 12 = .ok (.iload_n 1, 1) := by decide +kernel
theorem dX3_numberHere_13 : decode cX3_numberHere 13 = .ok (.if_icmp .gt 8, 3) := by decide +kernel
theorem dX3_numberHere_16 : decode cX3_numberHere 16 = .ok (.aload_n 0, 1) := by decide +kernel
theorem dX3_numberHere_17 : decode cX3_numberHere 17 = .ok (.getfield 76, 3) := by decide +kernel
theorem dX3_numberHere_20 : decode cX3_numberHere 20 = .ok (.ireturn, 1) := by decide +kernel
theorem dX3_numberHere_21 : decode cX3_numberHere 21 = .ok (.aload_n 0, 1) := by decide +kernel
theorem dX3_numberHere_22 : decode cX3_numberHere 22 = .ok (.aload_n 0, 1) := by decide +kernel
theorem dX3_numberHere_23 : decode cX3_numberHere 23 = .ok (.getfield 45, 3) := by decide +kernel
theorem dX3_numberHere_26 : decode cX3_numberHere 26 = .ok (.putfield 29, 3) := by decide +kernel
theorem dX3_numberHere_29 : decode cX3_numberHere 29 = .ok (.iconst 0, 1) := by decide +kernel
theorem dX3_numberHere_30 : decode cX3_numberHere 30 = .ok (.ireturn, 1) := by decide +kernel
theorem dX3_scopeOfWord_0 : decode cX3_scopeOfWord 0 = .ok (.iconst 0, 1) := by decide +kernel
theorem dX3_scopeOfWord_1 : decode cX3_scopeOfWord 1 = .ok (.istore_n 1, 1) := by decide +kernel
theorem dX3_scopeOfWord_2 : decode cX3_scopeOfWord 2 = .ok (.iload_n 1, 1) := by decide +kernel
theorem dX3_scopeOfWord_3 : decode cX3_scopeOfWord 3 = .ok (.iconst 5, 1) := by decide +kernel
theorem dX3_scopeOfWord_4 : decode cX3_scopeOfWord 4 = .ok (.if_icmp .gt 22, 3) := by decide +kernel
theorem dX3_scopeOfWord_7 : decode cX3_scopeOfWord 7 = .ok (.aload_n 0, 1) := by decide +kernel
theorem dX3_scopeOfWord_8 : decode cX3_scopeOfWord 8 = .ok (.iload_n 1, 1) := by decide +kernel
theorem dX3_scopeOfWord_9 : decode cX3_scopeOfWord 9 = .ok (.invokestatic 79, 3) := by decide +kernel
theorem dX3_scopeOfWord_12 : decode cX3_scopeOfWord 12 = .ok (.invokevirtual 83, 3) := by decide +kernel
theorem dX3_scopeOfWord_15 : decode cX3_scopeOfWord 15 = .ok (.ifCond .eq 5, 3) := by decide +kernel
theorem dX3_scopeOfWord_18 : decode cX3_scopeOfWord 18 = .ok (.iload_n 1, 1) := by decide +kernel
theorem dX3_scopeOfWord_19 : decode cX3_scopeOfWord 19 = .ok (.ireturn, 1) := by decide +kernel
theorem dX3_scopeOfWord_20 : decode cX3_scopeOfWord 20 = .ok (.iinc 1 1, 3) := by decide +kernel
theorem dX3_scopeOfWord_23 : decode cX3_scopeOfWord 23 = .ok (.goto (-21), 3) := by decide +kernel
theorem dX3_scopeOfWord_26 : decode cX3_scopeOfWord 26 = .ok (.iconst (-1), 1) := by decide +kernel
theorem dX3_scopeOfWord_27 : decode cX3_scopeOfWord 27 = .ok (.ireturn, 1) := by decide +kernel
theorem dX3_sortOfWord_0 : decode cX3_sortOfWord 0 = .ok (.iconst 0, 1) := by decide +kernel
theorem dX3_sortOfWord_1 : decode cX3_sortOfWord 1 = .ok (.istore_n 1, 1) := by decide +kernel
theorem dX3_sortOfWord_2 : decode cX3_sortOfWord 2 = .ok (.iload_n 1, 1) := by decide +kernel
theorem dX3_sortOfWord_3 : decode cX3_sortOfWord 3 = .ok (.iconst 5, 1) := by decide +kernel
theorem dX3_sortOfWord_4 : decode cX3_sortOfWord 4 = .ok (.if_icmp .gt 22, 3) := by decide +kernel
theorem dX3_sortOfWord_7 : decode cX3_sortOfWord 7 = .ok (.aload_n 0, 1) := by decide +kernel
theorem dX3_sortOfWord_8 : decode cX3_sortOfWord 8 = .ok (.iload_n 1, 1) := by decide +kernel
theorem dX3_sortOfWord_9 : decode cX3_sortOfWord 9 = .ok (.invokestatic 87, 3) := by decide +kernel
theorem dX3_sortOfWord_12 : decode cX3_sortOfWord 12 = .ok (.invokevirtual 83, 3) := by decide +kernel
theorem dX3_sortOfWord_15 : decode cX3_sortOfWord 15 = .ok (.ifCond .eq 5, 3) := by decide +kernel
theorem dX3_sortOfWord_18 : decode cX3_sortOfWord 18 = .ok (.iload_n 1, 1) := by decide +kernel
theorem dX3_sortOfWord_19 : decode cX3_sortOfWord 19 = .ok (.ireturn, 1) := by decide +kernel
theorem dX3_sortOfWord_20 : decode cX3_sortOfWord 20 = .ok (.iinc 1 1, 3) := by decide +kernel
theorem dX3_sortOfWord_23 : decode cX3_sortOfWord 23 = .ok (.goto (-21), 3) := by decide +kernel
theorem dX3_sortOfWord_26 : decode cX3_sortOfWord 26 = .ok (.iconst (-1), 1) := by decide +kernel
theorem dX3_sortOfWord_27 : decode cX3_sortOfWord 27 = .ok (.ireturn, 1) := by decide +kernel
theorem dX3_isWord_0 : decode cX3_isWord 0 = .ok (.aload_n 0, 1) := by decide +kernel
theorem dX3_isWord_1 : decode cX3_isWord 1 = .ok (.getfield 26, 3) := by decide +kernel
theorem dX3_isWord_4 : decode cX3_isWord 4 = .ok (.aload_n 0, 1) := by decide +kernel
theorem dX3_isWord_5 : decode cX3_isWord 5 = .ok (.getfield 45, 3) := by decide +kernel
theorem dX3_isWord_8 : decode cX3_isWord 8 = .ok (.isub, 1) := by decide +kernel
theorem dX3_isWord_9 : decode cX3_isWord 9 = .ok (.aload_n 1, 1) := by decide +kernel
theorem dX3_isWord_10 : decode cX3_isWord 10 = .ok (.invokevirtual 90, 3) := by decide +kernel
theorem dX3_isWord_13 : decode cX3_isWord 13 = .ok (.if_icmp .eq 5, 3) := by decide +kernel
theorem dX3_isWord_16 : decode cX3_isWord 16 = .ok (.iconst 0, 1) := by decide +kernel
theorem dX3_isWord_17 : decode cX3_isWord 17 = .ok (.ireturn, 1) := by decide +kernel
theorem dX3_isWord_18 : decode cX3_isWord 18 = .ok (.iconst 0, 1) := by decide +kernel
theorem dX3_isWord_19 : decode cX3_isWord 19 = .ok (.istore_n 2, 1) := by decide +kernel
theorem dX3_isWord_20 : decode cX3_isWord 20 = .ok (.iload_n 2, 1) := by decide +kernel
theorem dX3_isWord_21 : decode cX3_isWord 21 = .ok (.aload_n 1, 1) := by decide +kernel
theorem dX3_isWord_22 : decode cX3_isWord 22 = .ok (.invokevirtual 90, 3) := by decide +kernel
theorem dX3_isWord_25 : decode cX3_isWord 25 = .ok (.if_icmp .ge 29, 3) := by decide +kernel
theorem dX3_isWord_28 : decode cX3_isWord 28 = .ok (.aload_n 0, 1) := by decide +kernel
theorem dX3_isWord_29 : decode cX3_isWord 29 = .ok (.aload_n 0, 1) := by decide +kernel
theorem dX3_isWord_30 : decode cX3_isWord 30 = .ok (.getfield 45, 3) := by decide +kernel
theorem dX3_isWord_33 : decode cX3_isWord 33 = .ok (.iload_n 2, 1) := by decide +kernel
theorem dX3_isWord_34 : decode cX3_isWord 34 = .ok (.iadd, 1) := by decide +kernel
theorem dX3_isWord_35 : decode cX3_isWord 35 = .ok (.invokevirtual 94, 3) := by decide +kernel
theorem dX3_isWord_38 : decode cX3_isWord 38 = .ok (.aload_n 1, 1) := by decide +kernel
theorem dX3_isWord_39 : decode cX3_isWord 39 = .ok (.iload_n 2, 1) := by decide +kernel
theorem dX3_isWord_40 : decode cX3_isWord 40 = .ok (.invokevirtual 97, 3) := by decide +kernel
theorem dX3_isWord_43 : decode cX3_isWord 43 = .ok (.if_icmp .eq 5, 3) := by decide +kernel
theorem dX3_isWord_46 : decode cX3_isWord 46 = .ok (.iconst 0, 1) := by decide +kernel
theorem dX3_isWord_47 : decode cX3_isWord 47 = .ok (.ireturn, 1) := by decide +kernel
theorem dX3_isWord_48 : decode cX3_isWord 48 = .ok (.iinc 2 1, 3) := by decide +kernel
theorem dX3_isWord_51 : decode cX3_isWord 51 = .ok (.goto (-31), 3) := by decide +kernel
theorem dX3_isWord_54 : decode cX3_isWord 54 = .ok (.iconst 1, 1) := by decide +kernel
theorem dX3_isWord_55 : decode cX3_isWord 55 = .ok (.ireturn, 1) := by decide +kernel
theorem dX3_byteAt_0 : decode cX3_byteAt 0 = .ok (.iload_n 1, 1) := by decide +kernel
theorem dX3_byteAt_1 : decode cX3_byteAt 1 = .ok (.ifCond .lt 26, 3) := by decide +kernel
theorem dX3_byteAt_4 : decode cX3_byteAt 4 = .ok (.iload_n 1, 1) := by decide +kernel
theorem dX3_byteAt_5 : decode cX3_byteAt 5 = .ok (.aload_n 0, 1) := by decide +kernel
theorem dX3_byteAt_6 : decode cX3_byteAt 6 = .ok (.getfield 22, 3) := by decide +kernel
theorem dX3_byteAt_9 : decode cX3_byteAt 9 = .ok (.if_icmp .ge 18, 3) := by decide +kernel
theorem dX3_byteAt_12 : decode cX3_byteAt 12 = .ok (.iload_n 1, 1) := by decide +kernel
theorem dX3_byteAt_13 : decode cX3_byteAt 13 = .ok (.bipush 120, 2) := by decide +kernel
theorem dX3_byteAt_15 : decode cX3_byteAt 15 = .ok (.if_icmp .ge 12, 3) := by decide +kernel
theorem dX3_byteAt_18 : decode cX3_byteAt 18 = .ok (.aload_n 0, 1) := by decide +kernel
theorem dX3_byteAt_19 : decode cX3_byteAt 19 = .ok (.getfield 9, 3) := by decide +kernel
theorem dX3_byteAt_22 : decode cX3_byteAt 22 = .ok (.iload_n 1, 1) := by decide +kernel
theorem dX3_byteAt_23 : decode cX3_byteAt 23 = .ok (.baload, 1) := by decide +kernel
theorem dX3_byteAt_24 : decode cX3_byteAt 24 = .ok (.goto 4, 3) := by decide +kernel
theorem dX3_byteAt_27 : decode cX3_byteAt 27 = .ok (.iconst 0, 1) := by decide +kernel
theorem dX3_byteAt_28 : decode cX3_byteAt 28 = .ok (.ireturn, 1) := by decide +kernel
theorem dX3_advance_0 : decode cX3_advance 0 = .ok (.aload_n 0, 1) := by decide +kernel
theorem dX3_advance_1 : decode cX3_advance 1 = .ok (.getfield 26, 3) := by decide +kernel
theorem dX3_advance_4 : decode cX3_advance 4 = .ok (.aload_n 0, 1) := by decide +kernel
theorem dX3_advance_5 : decode cX3_advance 5 = .ok (.getfield 22, 3) := by decide +kernel
theorem dX3_advance_8 : decode cX3_advance 8 = .ok (.if_icmp .ge 29, 3) := by decide +kernel
theorem dX3_advance_11 : decode cX3_advance 11 = .ok (.aload_n 0, 1) := by decide +kernel
theorem dX3_advance_12 : decode cX3_advance 12 = .ok (.aload_n 0, 1) := by decide +kernel
theorem dX3_advance_13 : decode cX3_advance 13 = .ok (.getfield 26, 3) := by decide +kernel
theorem dX3_advance_16 : decode cX3_advance 16 = .ok (.invokevirtual 94, 3) := by decide +kernel
theorem dX3_advance_19 : decode cX3_advance 19 = .ok (.bipush 32, 2) := by decide +kernel
theorem dX3_advance_21 : decode cX3_advance 21 = .ok (.if_icmp .ne 16, 3) := by decide +kernel
theorem dX3_advance_24 : decode cX3_advance 24 = .ok (.aload_n 0, 1) := by decide +kernel
theorem dX3_advance_25 : decode cX3_advance 25 = .ok (.dup, 1) := by decide +kernel
theorem dX3_advance_26 : decode cX3_advance 26 = .ok (.getfield 26, 3) := by decide +kernel
theorem dX3_advance_29 : decode cX3_advance 29 = .ok (.iconst 1, 1) := by decide +kernel
theorem dX3_advance_30 : decode cX3_advance 30 = .ok (.iadd, 1) := by decide +kernel
theorem dX3_advance_31 : decode cX3_advance 31 = .ok (.putfield 26, 3) := by decide +kernel
theorem dX3_advance_34 : decode cX3_advance 34 = .ok (.goto (-34), 3) := by decide +kernel
theorem dX3_advance_37 : decode cX3_advance 37 = .ok (.aload_n 0, 1) := by decide +kernel
theorem dX3_advance_38 : decode cX3_advance 38 = .ok (.aload_n 0, 1) := by decide +kernel
theorem dX3_advance_39 : decode cX3_advance 39 = .ok (.getfield 26, 3) := by decide +kernel
theorem dX3_advance_42 : decode cX3_advance 42 = .ok (.putfield 45, 3) := by decide +kernel
theorem dX3_advance_45 : decode cX3_advance 45 = .ok (.aload_n 0, 1) := by decide +kernel
theorem dX3_advance_46 : decode cX3_advance 46 = .ok (.aload_n 0, 1) := by decide +kernel
theorem dX3_advance_47 : decode cX3_advance 47 = .ok (.getfield 26, 3) := by decide +kernel
theorem dX3_advance_50 : decode cX3_advance 50 = .ok (.aload_n 0, 1) := by decide +kernel
theorem dX3_advance_51 : decode cX3_advance 51 = .ok (.getfield 22, 3) := by decide +kernel
theorem dX3_advance_54 : decode cX3_advance 54 = .ok (.if_icmp .ge 17, 3) := by decide +kernel
theorem dX3_advance_57 : decode cX3_advance 57 = .ok (.aload_n 0, 1) := by decide +kernel
theorem dX3_advance_58 : decode cX3_advance 58 = .ok (.aload_n 0, 1) := by decide +kernel
theorem dX3_advance_59 : decode cX3_advance 59 = .ok (.getfield 26, 3) := by decide +kernel
theorem dX3_advance_62 : decode cX3_advance 62 = .ok (.invokevirtual 94, 3) := by decide +kernel
theorem dX3_advance_65 : decode cX3_advance 65 = .ok (.invokestatic 101, 3) := by decide +kernel
theorem dX3_advance_68 : decode cX3_advance 68 = .ok (.goto 4, 3) := by decide +kernel
theorem dX3_advance_71 : decode cX3_advance 71 = .ok (.iconst 0, 1) := by decide +kernel
theorem dX3_advance_72 : decode cX3_advance 72 = .ok (.putfield 42, 3) := by decide +kernel
theorem dX3_advance_75 : decode cX3_advance 75 = .ok (.aload_n 0, 1) := by decide +kernel
theorem dX3_advance_76 : decode cX3_advance 76 = .ok (.iconst 0, 1) := by decide +kernel
theorem dX3_advance_77 : decode cX3_advance 77 = .ok (.putfield 76, 3) := by decide +kernel
theorem dX3_advance_80 : decode cX3_advance 80 = .ok (.aload_n 0, 1) := by decide +kernel
theorem dX3_advance_81 : decode cX3_advance 81 = .ok (.getfield 42, 3) := by decide +kernel
theorem dX3_advance_84 : decode cX3_advance 84 = .ok (.ifCond .eq 7, 3) := by decide +kernel
theorem dX3_advance_87 : decode cX3_advance 87 = .ok (.iconst 1, 1) := by decide +kernel
theorem dX3_advance_88 : decode cX3_advance 88 = .ok (.goto 4, 3) := by decide +kernel
theorem dX3_advance_91 : decode cX3_advance 91 = .ok (.iconst 0, 1) := by decide +kernel
theorem dX3_advance_92 : decode cX3_advance 92 = .ok (.istore_n 1, 1) := by decide +kernel
theorem dX3_advance_93 : decode cX3_advance 93 = .ok (.iload_n 1, 1) := by decide +kernel
theorem dX3_advance_94 : decode cX3_advance 94 = .ok (.ifCond .eq 103, 3) := by decide +kernel
theorem dX3_advance_97 : decode cX3_advance 97 = .ok (.aload_n 0, 1) := by decide +kernel
theorem dX3_advance_98 : decode cX3_advance 98 = .ok (.getfield 26, 3) := by decide +kernel
theorem dX3_advance_101 : decode cX3_advance 101 = .ok (.aload_n 0, 1) := by decide +kernel
theorem dX3_advance_102 : decode cX3_advance 102 = .ok (.getfield 22, 3) := by decide +kernel
theorem dX3_advance_105 : decode cX3_advance 105 = .ok (.if_icmp .ge 92, 3) := by decide +kernel
theorem dX3_advance_108 : decode cX3_advance 108 = .ok (.aload_n 0, 1) := by decide +kernel
theorem dX3_advance_109 : decode cX3_advance 109 = .ok (.getfield 42, 3) := by decide +kernel
theorem dX3_advance_112 : decode cX3_advance 112 = .ok (.iconst 2, 1) := by decide +kernel
theorem dX3_advance_113 : decode cX3_advance 113 = .ok (.if_icmp .ne 31, 3) := by decide +kernel
theorem dX3_advance_116 : decode cX3_advance 116 = .ok (.aload_n 0, 1) := by decide +kernel
theorem dX3_advance_117 : decode cX3_advance 117 = .ok (.bipush 10, 2) := by decide +kernel
theorem dX3_advance_119 : decode cX3_advance 119 = .ok (.aload_n 0, 1) := by decide +kernel
theorem dX3_advance_120 : decode cX3_advance 120 = .ok (.getfield 76, 3) := by decide +kernel
theorem dX3_advance_123 : decode cX3_advance 123 = .ok (.bipush 10, 2) := by decide +kernel
theorem dX3_advance_125 : decode cX3_advance 125 = .ok (.imul, 1) := by decide +kernel
theorem dX3_advance_126 : decode cX3_advance 126 = .ok (.aload_n 0, 1) := by decide +kernel
theorem dX3_advance_127 : decode cX3_advance 127 = .ok (.aload_n 0, 1) := by decide +kernel
theorem dX3_advance_128 : decode cX3_advance 128 = .ok (.getfield 26, 3) := by decide +kernel
theorem dX3_advance_131 : decode cX3_advance 131 = .ok (.invokevirtual 94, 3) := by decide +kernel
theorem dX3_advance_134 : decode cX3_advance 134 = .ok (.iadd, 1) := by decide +kernel
theorem dX3_advance_135 : decode cX3_advance 135 = .ok (.bipush 48, 2) := by decide +kernel
theorem dX3_advance_137 : decode cX3_advance 137 = .ok (.isub, 1) := by decide +kernel
theorem dX3_advance_138 : decode cX3_advance 138 = .ok (.invokestatic 104, 3) := by decide +kernel
theorem dX3_advance_141 : decode cX3_advance 141 = .ok (.putfield 76, 3) := by decide +kernel
theorem dX3_advance_144 : decode cX3_advance 144 = .ok (.aload_n 0, 1) := by decide +kernel
theorem dX3_advance_145 : decode cX3_advance 145 = .ok (.dup, 1) := by decide +kernel
theorem dX3_advance_146 : decode cX3_advance 146 = .ok (.getfield 26, 3) := by decide +kernel
theorem dX3_advance_149 : decode cX3_advance 149 = .ok (.iconst 1, 1) := by decide +kernel
theorem dX3_advance_150 : decode cX3_advance 150 = .ok (.iadd, 1) := by decide +kernel
theorem dX3_advance_151 : decode cX3_advance 151 = .ok (.putfield 26, 3) := by decide +kernel
