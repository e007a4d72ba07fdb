theorem dX11_wordOf_7 : decode cX11_wordOf 7 = .ok (.if_icmp .ge 25, 3) := by decide +kernel
theorem dX11_wordOf_10 : decode cX11_wordOf 10 = .ok (.aload_n 0, 1) := by decide +kernel
theorem dX11_wordOf_11 : decode cX11_wordOf 11 = .ok (.aload_n 1, 1) := by decide +kernel
theorem dX11_wordOf_12 : decode cX11_wordOf 12 = .ok (.iload_n 3, 1) := by decide +kernel
theorem dX11_wordOf_13 : decode cX11_wordOf 13 = .ok (.aaload, 1) := by decide +kernel
theorem dX11_wordOf_14 : decode cX11_wordOf 14 = .ok (.invokevirtual 267, 3) := by decide +kernel
theorem dX11_wordOf_17 : decode cX11_wordOf 17 = .ok (.ifCond .eq 7, 3) := by decide +kernel
theorem dX11_wordOf_20 : decode cX11_wordOf 20 = .ok (.iload_n 3, 1) := by decide +kernel
theorem dX11_wordOf_21 : decode cX11_wordOf 21 = .ok (.goto 4, 3) := by decide +kernel
theorem dX11_wordOf_24 : decode cX11_wordOf 24 = .ok (.iload_n 2, 1) := by decide +kernel
theorem dX11_wordOf_25 : decode cX11_wordOf 25 = .ok (.istore_n 2, 1) := by decide +kernel
theorem dX11_wordOf_26 : decode cX11_wordOf 26 = .ok (.iinc 3 1, 3) := by decide +kernel
theorem dX11_wordOf_29 : decode cX11_wordOf 29 = .ok (.goto (-25), 3) := by decide +kernel
theorem dX11_wordOf_32 : decode cX11_wordOf 32 = .ok (.iload_n 2, 1) := by decide +kernel
theorem dX11_wordOf_33 : decode cX11_wordOf 33 = .ok (.ireturn, 1) := by decide +kernel
theorem dX11_isNumber_0 : decode cX11_isNumber 0 = .ok (.aload_n 0, 1) := by decide +kernel
theorem dX11_isNumber_1 : decode cX11_isNumber 1 = .ok (.getfield 257, 3) := by decide +kernel
theorem dX11_isNumber_4 : decode cX11_isNumber 4 = .ok (.iconst 2, 1) := by decide +kernel
theorem dX11_isNumber_5 : decode cX11_isNumber 5 = .ok (.if_icmp .ne 11, 3) := by decide +kernel
theorem dX11_isNumber_8 : decode cX11_isNumber 8 = .ok (.aload_n 0, 1) := by decide +kernel
theorem dX11_isNumber_9 : decode cX11_isNumber 9 = .ok (.getfield 254, 3) := by decide +kernel
theorem dX11_isNumber_12 : decode cX11_isNumber 12 = .ok (.iload_n 2, 1) := by decide +kernel
theorem dX11_isNumber_13 : decode cX11_isNumber 13 = .ok (.if_icmp .le 5, 3) := by decide +kernel
theorem dX11_isNumber_16 : decode cX11_isNumber 16 = .ok (.iconst 0, 1) := by decide +kernel
theorem dX11_isNumber_17 : decode cX11_isNumber 17 = .ok (.ireturn, 1) := by decide +kernel
theorem dX11_isNumber_18 : decode cX11_isNumber 18 = .ok (.aload_n 0, 1) := by decide +kernel
theorem dX11_isNumber_19 : decode cX11_isNumber 19 = .ok (.getfield 72, 3) := by decide +kernel
theorem dX11_isNumber_22 : decode cX11_isNumber 22 = .ok (.iload_n 1, 1) := by decide +kernel
theorem dX11_isNumber_23 : decode cX11_isNumber 23 = .ok (.aload_n 0, 1) := by decide +kernel
theorem dX11_isNumber_24 : decode cX11_isNumber 24 = .ok (.getfield 254, 3) := by decide +kernel
theorem dX11_isNumber_27 : decode cX11_isNumber 27 = .ok (.iastore, 1) := by decide +kernel
theorem dX11_isNumber_28 : decode cX11_isNumber 28 = .ok (.aload_n 0, 1) := by decide +kernel
theorem dX11_isNumber_29 : decode cX11_isNumber 29 = .ok (.invokevirtual 271, 3) := by decide +kernel
theorem dX11_isNumber_32 : decode cX11_isNumber 32 = .ok (.iconst 1, 1) := by decide +kernel
theorem dX11_isNumber_33 : decode cX11_isNumber 33 = .ok (.ireturn, 1) := by decide +kernel
theorem dX11_isValue_0 : decode cX11_isValue 0 = .ok (.aload_n 0, 1) := by decide +kernel
theorem dX11_isValue_1 : decode cX11_isValue 1 = .ok (.getfield 257, 3) := by decide +kernel
theorem dX11_isValue_4 : decode cX11_isValue 4 = .ok (.bipush 45, 2) := by decide +kernel
theorem dX11_isValue_6 : decode cX11_isValue 6 = .ok (.if_icmp .ne 7, 3) := by decide +kernel
theorem dX11_isValue_9 : decode cX11_isValue 9 = .ok (.iconst 1, 1) := by decide +kernel
theorem dX11_isValue_10 : decode cX11_isValue 10 = .ok (.goto 4, 3) := by decide +kernel
theorem dX11_isValue_13 : decode cX11_isValue 13 = .ok (.iconst 0, 1) := by decide +kernel
theorem dX11_isValue_14 : decode cX11_isValue 14 = .ok (.istore_n 2, 1) := by decide +kernel
theorem dX11_isValue_15 : decode cX11_isValue 15 = .ok (.iload_n 2, 1) := by decide +kernel
theorem dX11_isValue_16 : decode cX11_isValue 16 = .ok (.ifCond .eq 7, 3) := by decide +kernel
theorem dX11_isValue_19 : decode cX11_isValue 19 = .ok (.aload_n 0, 1) := by decide +kernel
theorem dX11_isValue_20 : decode cX11_isValue 20 = .ok (.invokevirtual 271, 3) := by decide +kernel
theorem dX11_isValue_23 : decode cX11_isValue 23 = .ok (.aload_n 0, 1) := by decide +kernel
theorem dX11_isValue_24 : decode cX11_isValue 24 = .ok (.iload_n 1, 1) := by decide +kernel
theorem dX11_isValue_25 : decode cX11_isValue 25 = .ok (.bipush 9, 2) := by decide +kernel
theorem dX11_isValue_27 : decode cX11_isValue 27 = .ok (.invokevirtual 274, 3) := by decide +kernel
theorem dX11_isValue_30 : decode cX11_isValue 30 = .ok (.ifCond .ne 5, 3) := by decide +kernel
theorem dX11_isValue_33 : decode cX11_isValue 33 = .ok (.iconst 0, 1) := by decide +kernel
theorem dX11_isValue_34 : decode cX11_isValue 34 = .ok (.ireturn, 1) := by decide +kernel
theorem dX11_isValue_35 : decode cX11_isValue 35 = .ok (.aload_n 0, 1) := by decide +kernel
theorem dX11_isValue_36 : decode cX11_isValue 36 = .ok (.getfield 72, 3) := by decide +kernel
theorem dX11_isValue_39 : decode cX11_isValue 39 = .ok (.iload_n 1, 1) := by decide +kernel
theorem dX11_isValue_40 : decode cX11_isValue 40 = .ok (.iload_n 2, 1) := by decide +kernel
theorem dX11_isValue_41 : decode cX11_isValue 41 = .ok (.ifCond .eq 13, 3) := by decide +kernel
theorem dX11_isValue_44 : decode cX11_isValue 44 = .ok (.aload_n 0, 1) := by decide +kernel
theorem dX11_isValue_45 : decode cX11_isValue 45 = .ok (.getfield 72, 3) := by decide +kernel
theorem dX11_isValue_48 : decode cX11_isValue 48 = .ok (.iload_n 1, 1) := by decide +kernel
theorem dX11_isValue_49 : decode cX11_isValue 49 = .ok (.iaload, 1) := by decide +kernel
theorem dX11_isValue_50 : decode cX11_isValue 50 = .ok (.ineg, 1) := by decide +kernel
theorem dX11_isValue_51 : decode cX11_isValue 51 = .ok (.goto 9, 3) := by decide +kernel
theorem dX11_isValue_54 : decode cX11_isValue 54 = .ok (.aload_n 0, 1) := by decide +kernel
theorem dX11_isValue_55 : decode cX11_isValue 55 = .ok (.getfield 72, 3) := by decide +kernel
theorem dX11_isValue_58 : decode cX11_isValue 58 = .ok (.iload_n 1, 1) := by decide +kernel
theorem dX11_isValue_59 : decode cX11_isValue 59 = .ok (.iaload, 1) := by decide +kernel
theorem dX11_isValue_60 : decode cX11_isValue 60 = .ok (.iastore, 1) := by decide +kernel
theorem dX11_isValue_61 : decode cX11_isValue 61 = .ok (.iconst 1, 1) := by decide +kernel
theorem dX11_isValue_62 : decode cX11_isValue 62 = .ok (.ireturn, 1) := by decide +kernel
theorem dX11_isPhrase_0 : decode cX11_isPhrase 0 = .ok (.aload_n 0, 1) := by decide +kernel
theorem dX11_isPhrase_1 : decode cX11_isPhrase 1 = .ok (.aload_n 0, 1) := by decide +kernel
theorem dX11_isPhrase_2 : decode cX11_isPhrase 2 = .ok (.getfield 54, 3) := by decide +kernel
theorem dX11_isPhrase_5 : decode cX11_isPhrase 5 = .ok (.invokevirtual 277, 3) := by decide +kernel
theorem dX11_isPhrase_8 : decode cX11_isPhrase 8 = .ok (.istore_n 1, 1) := by decide +kernel
theorem dX11_isPhrase_9 : decode cX11_isPhrase 9 = .ok (.iload_n 1, 1) := by decide +kernel
theorem dX11_isPhrase_10 : decode cX11_isPhrase 10 = .ok (.iconst (-1), 1) := by decide +kernel
theorem dX11_isPhrase_11 : decode cX11_isPhrase 11 = .ok (.if_icmp .eq 16, 3) := by decide +kernel
theorem dX11_isPhrase_14 : decode cX11_isPhrase 14 = .ok (.aload_n 0, 1) := by decide +kernel
theorem dX11_isPhrase_15 : decode cX11_isPhrase 15 = .ok (.getfield 7, 3) := by decide +kernel
theorem dX11_isPhrase_18 : decode cX11_isPhrase 18 = .ok (.sipush 239, 3) := by decide +kernel
theorem dX11_isPhrase_21 : decode cX11_isPhrase 21 = .ok (.iaload, 1) := by decide +kernel
theorem dX11_isPhrase_22 : decode cX11_isPhrase 22 = .ok (.bipush 10, 2) := by decide +kernel
theorem dX11_isPhrase_24 : decode cX11_isPhrase 24 = .ok (.if_icmp .ne 5, 3) := by decide +kernel
theorem dX11_isPhrase_27 : decode cX11_isPhrase 27 = .ok (.iconst 0, 1) := by decide +kernel
theorem dX11_isPhrase_28 : decode cX11_isPhrase 28 = .ok (.ireturn, 1) := by decide +kernel
theorem dX11_isPhrase_29 : decode cX11_isPhrase 29 = .ok (.iconst 0, 1) := by decide +kernel
theorem dX11_isPhrase_30 : decode cX11_isPhrase 30 = .ok (.istore_n 2, 1) := by decide +kernel
theorem dX11_isPhrase_31 : decode cX11_isPhrase 31 = .ok (.iload_n 2, 1) := by decide +kernel
theorem dX11_isPhrase_32 : decode cX11_isPhrase 32 = .ok (.iconst 3, 1) := by decide +kernel
theorem dX11_isPhrase_33 : decode cX11_isPhrase 33 = .ok (.if_icmp .ge 16, 3) := by decide +kernel
theorem dX11_isPhrase_36 : decode cX11_isPhrase 36 = .ok (.aload_n 0, 1) := by decide +kernel
theorem dX11_isPhrase_37 : decode cX11_isPhrase 37 = .ok (.getfield 72, 3) := by decide +kernel
theorem dX11_isPhrase_40 : decode cX11_isPhrase 40 = .ok (.iload_n 2, 1) := by decide +kernel
theorem dX11_isPhrase_41 : decode cX11_isPhrase 41 = .ok (.iconst 0, 1) := by decide +kernel
theorem dX11_isPhrase_42 : decode cX11_isPhrase 42 = .ok (.iastore, 1) := by decide +kernel
theorem dX11_isPhrase_43 : decode cX11_isPhrase 43 = .ok (.iinc 2 1, 3) := by decide +kernel
theorem dX11_isPhrase_46 : decode cX11_isPhrase 46 = .ok (.goto (-15), 3) := by decide +kernel
theorem dX11_isPhrase_49 : decode cX11_isPhrase 49 = .ok (.aload_n 0, 1) := by decide +kernel
theorem dX11_isPhrase_50 : decode cX11_isPhrase 50 = .ok (.invokevirtual 271, 3) := by decide +kernel
theorem dX11_isPhrase_53 : decode cX11_isPhrase 53 = .ok (.iload_n 1, 1) := by decide +kernel
theorem dX11_isPhrase_54 : decode cX11_isPhrase 54 = .ok (.ifCond .le 33, 3) := by decide +kernel
theorem dX11_isPhrase_57 : decode cX11_isPhrase 57 = .ok (.aload_n 0, 1) := by decide +kernel
theorem dX11_isPhrase_58 : decode cX11_isPhrase 58 = .ok (.iconst 0, 1) := by decide +kernel
theorem dX11_isPhrase_59 : decode cX11_isPhrase 59 = .ok (.iload_n 1, 1) := by decide +kernel
theorem dX11_isPhrase_60 : decode cX11_isPhrase 60 = .ok (.iconst 1, 1) := by decide +kernel
theorem dX11_isPhrase_61 : decode cX11_isPhrase 61 = .ok (.if_icmp .ne 7, 3) := by decide +kernel
theorem dX11_isPhrase_64 : decode cX11_isPhrase 64 = .ok (.iconst 1, 1) := by decide +kernel
theorem dX11_isPhrase_65 : decode cX11_isPhrase 65 = .ok (.goto 14, 3) := by decide +kernel
theorem dX11_isPhrase_68 : decode cX11_isPhrase 68 = .ok (.iload_n 1, 1) := by decide +kernel
theorem dX11_isPhrase_69 : decode cX11_isPhrase 69 = .ok (.iconst 5, 1) := by decide +kernel
theorem dX11_isPhrase_70 : decode cX11_isPhrase 70 = .ok (.if_icmp .ne 8, 3) := by decide +kernel
theorem dX11_isPhrase_73 : decode cX11_isPhrase 73 = .ok (.bipush 7, 2) := by decide +kernel
theorem dX11_isPhrase_75 : decode cX11_isPhrase 75 = .ok (.goto 4, 3) := by decide +kernel
theorem dX11_isPhrase_78 : decode cX11_isPhrase 78 = .ok (.iconst 5, 1) := by decide +kernel
theorem dX11_isPhrase_79 : decode cX11_isPhrase 79 = .ok (.invokevirtual 274, 3) := by decide +kernel
theorem dX11_isPhrase_82 : decode cX11_isPhrase 82 = .ok (.ifCond .ne 5, 3) := by decide +kernel
theorem dX11_isPhrase_85 : decode cX11_isPhrase 85 = .ok (.iconst 0, 1) := by decide +kernel
theorem dX11_isPhrase_86 : decode cX11_isPhrase 86 = .ok (.ireturn, 1) := by decide +kernel
theorem dX11_isPhrase_87 : decode cX11_isPhrase 87 = .ok (.aload_n 0, 1) := by decide +kernel
theorem dX11_isPhrase_88 : decode cX11_isPhrase 88 = .ok (.aload_n 0, 1) := by decide +kernel
theorem dX11_isPhrase_89 : decode cX11_isPhrase 89 = .ok (.getfield 69, 3) := by decide +kernel
theorem dX11_isPhrase_92 : decode cX11_isPhrase 92 = .ok (.invokevirtual 277, 3) := by decide +kernel
theorem dX11_isPhrase_95 : decode cX11_isPhrase 95 = .ok (.istore_n 2, 1) := by decide +kernel
theorem dX11_isPhrase_96 : decode cX11_isPhrase 96 = .ok (.iload_n 2, 1) := by decide +kernel
theorem dX11_isPhrase_97 : decode cX11_isPhrase 97 = .ok (.iconst (-1), 1) := by decide +kernel
theorem dX11_isPhrase_98 : decode cX11_isPhrase 98 = .ok (.if_icmp .ne 5, 3) := by decide +kernel
theorem dX11_isPhrase_101 : decode cX11_isPhrase 101 = .ok (.iconst 0, 1) := by decide +kernel
theorem dX11_isPhrase_102 : decode cX11_isPhrase 102 = .ok (.ireturn, 1) := by decide +kernel
theorem dX11_isPhrase_103 : decode cX11_isPhrase 103 = .ok (.aload_n 0, 1) := by decide +kernel
theorem dX11_isPhrase_104 : decode cX11_isPhrase 104 = .ok (.invokevirtual 271, 3) := by decide +kernel
theorem dX11_isPhrase_107 : decode cX11_isPhrase 107 = .ok (.iload_n 2, 1) := by decide +kernel
theorem dX11_isPhrase_108 : decode cX11_isPhrase 108 = .ok (.iconst 3, 1) := by decide +kernel
theorem dX11_isPhrase_109 : decode cX11_isPhrase 109 = .ok (.if_icmp .ge 14, 3) := by decide +kernel
theorem dX11_isPhrase_112 : decode cX11_isPhrase 112 = .ok (.aload_n 0, 1) := by decide +kernel
theorem dX11_isPhrase_113 : decode cX11_isPhrase 113 = .ok (.iconst 1, 1) := by decide +kernel
theorem dX11_isPhrase_114 : decode cX11_isPhrase 114 = .ok (.iconst 5, 1) := by decide +kernel
theorem dX11_isPhrase_115 : decode cX11_isPhrase 115 = .ok (.invokevirtual 274, 3) := by decide +kernel
theorem dX11_isPhrase_118 : decode cX11_isPhrase 118 = .ok (.ifCond .ne 5, 3) := by decide +kernel
theorem dX11_isPhrase_121 : decode cX11_isPhrase 121 = .ok (.iconst 0, 1) := by decide +kernel
theorem dX11_isPhrase_122 : decode cX11_isPhrase 122 = .ok (.ireturn, 1) := by decide +kernel
theorem dX11_isPhrase_123 : decode cX11_isPhrase 123 = .ok (.iload_n 2, 1) := by decide +kernel
theorem dX11_isPhrase_124 : decode cX11_isPhrase 124 = .ok (.iconst 3, 1) := by decide +kernel
theorem dX11_isPhrase_125 : decode cX11_isPhrase 125 = .ok (.iconst 4, 1) := by decide +kernel
theorem dX11_isPhrase_126 : decode cX11_isPhrase 126 = .ok (.invokestatic 84, 3) := by decide +kernel
theorem dX11_isPhrase_129 : decode cX11_isPhrase 129 = .ok (.ifCond .eq 21, 3) := by decide +kernel
theorem dX11_isPhrase_132 : decode cX11_isPhrase 132 = .ok (.aload_n 0, 1) := by decide +kernel
theorem dX11_isPhrase_133 : decode cX11_isPhrase 133 = .ok (.iconst 1, 1) := by decide +kernel
theorem dX11_isPhrase_134 : decode cX11_isPhrase 134 = .ok (.invokevirtual 281, 3) := by decide +kernel
theorem dX11_isPhrase_137 : decode cX11_isPhrase 137 = .ok (.ifCond .eq 11, 3) := by decide +kernel
theorem dX11_isPhrase_140 : decode cX11_isPhrase 140 = .ok (.aload_n 0, 1) := by decide +kernel
theorem dX11_isPhrase_141 : decode cX11_isPhrase 141 = .ok (.iconst 2, 1) := by decide +kernel
theorem dX11_isPhrase_142 : decode cX11_isPhrase 142 = .ok (.invokevirtual 281, 3) := by decide +kernel
theorem dX11_isPhrase_145 : decode cX11_isPhrase 145 = .ok (.ifCond .ne 5, 3) := by decide +kernel
theorem dX11_isPhrase_148 : decode cX11_isPhrase 148 = .ok (.iconst 0, 1) := by decide +kernel
theorem dX11_isPhrase_149 : decode cX11_isPhrase 149 = .ok (.ireturn, 1) := by decide +kernel
theorem dX11_isPhrase_150 : decode cX11_isPhrase 150 = .ok (.aload_n 0, 1) := by decide +kernel
theorem dX11_isPhrase_151 : decode cX11_isPhrase 151 = .ok (.aload_n 0, 1) := by decide +kernel
theorem dX11_isPhrase_152 : decode cX11_isPhrase 152 = .ok (.getfield 7, 3) := by decide +kernel
theorem dX11_isPhrase_155 : decode cX11_isPhrase 155 = .ok (.sipush 239, 3) := by decide +kernel
theorem dX11_isPhrase_158 : decode cX11_isPhrase 158 = .ok (.iaload, 1) := by decide +kernel
theorem dX11_isPhrase_159 : decode cX11_isPhrase 159 = .ok (.iload_n 2, 1) := by decide +kernel
theorem dX11_isPhrase_160 : decode cX11_isPhrase 160 = .ok (.iload_n 1, 1) := by decide +kernel
theorem dX11_isPhrase_161 : decode cX11_isPhrase 161 = .ok (.aload_n 0, 1) := by decide +kernel
theorem dX11_isPhrase_162 : decode cX11_isPhrase 162 = .ok (.getfield 72, 3) := by decide +kernel
theorem dX11_isPhrase_165 : decode cX11_isPhrase 165 = .ok (.iconst 0, 1) := by decide +kernel
theorem dX11_isPhrase_166 : decode cX11_isPhrase 166 = .ok (.iaload, 1) := by decide +kernel
theorem dX11_isPhrase_167 : decode cX11_isPhrase 167 = .ok (.aload_n 0, 1) := by decide +kernel
theorem dX11_isPhrase_168 : decode cX11_isPhrase 168 = .ok (.getfield 72, 3) := by decide +kernel
theorem dX11_isPhrase_171 : decode cX11_isPhrase 171 = .ok (.iconst 1, 1) := by decide +kernel
theorem dX11_isPhrase_172 : decode cX11_isPhrase 172 = .ok (.iaload, 1) := by decide +kernel
theorem dX11_isPhrase_173 : decode cX11_isPhrase 173 = .ok (.aload_n 0, 1) := by decide +kernel
theorem dX11_isPhrase_174 : decode cX11_isPhrase 174 = .ok (.getfield 72, 3) := by decide +kernel
theorem dX11_isPhrase_177 : decode cX11_isPhrase 177 = .ok (.iconst 2, 1) := by decide +kernel
theorem dX11_isPhrase_178 : decode cX11_isPhrase 178 = .ok (.iaload, 1) := by decide +kernel
theorem dX11_isPhrase_179 : decode cX11_isPhrase 179 = .ok (.invokevirtual 179, 3) := by decide +kernel
theorem dX11_isPhrase_182 : decode cX11_isPhrase 182 = .ok (.aload_n 0, 1) := by decide +kernel
theorem dX11_isPhrase_183 : decode cX11_isPhrase 183 = .ok (.getfield 7, 3) := by decide +kernel
theorem dX11_isPhrase_186 : decode cX11_isPhrase 186 = .ok (.sipush 239, 3) := by decide +kernel
theorem dX11_isPhrase_189 : decode cX11_isPhrase 189 = .ok (.dup2, 1) := by decide +kernel
theorem dX11_isPhrase_190 : decode cX11_isPhrase 190 = .ok (.iaload, 1) := by decide +kernel
theorem dX11_isPhrase_191 : decode cX11_isPhrase 191 = .ok (.iconst 1, 1) := by decide +kernel
theorem dX11_isPhrase_192 : decode cX11_isPhrase 192 = .ok (.iadd, 1) := by decide +kernel
theorem dX11_isPhrase_193 : decode cX11_isPhrase 193 = .ok (.iastore, 1) := by decide +kernel
theorem dX11_isPhrase_194 : decode cX11_isPhrase 194 = .ok (.iconst 1, 1) := by decide +kernel
theorem dX11_isPhrase_195 : decode cX11_isPhrase 195 = .ok (.ireturn, 1) := by decide +kernel
theorem dX11_isText_0 : decode cX11_isText 0 = .ok (.aload_n 0, 1) := by decide +kernel
theorem dX11_isText_1 : decode cX11_isText 1 = .ok (.iconst 0, 1) := by decide +kernel
theorem dX11_isText_2 : decode cX11_isText 2 = .ok (.putfield 245, 3) := by decide +kernel
theorem dX11_isText_5 : decode cX11_isText 5 = .ok (.aload_n 0, 1) := by decide +kernel
theorem dX11_isText_6 : decode cX11_isText 6 = .ok (.invokevirtual 271, 3) := by decide +kernel
theorem dX11_isText_9 : decode cX11_isText 9 = .ok (.aload_n 0, 1) := by decide +kernel
theorem dX11_isText_10 : decode cX11_isText 10 = .ok (.invokevirtual 284, 3) := by decide +kernel
theorem dX11_isText_13 : decode cX11_isText 13 = .ok (.ifCond .ne 5, 3) := by decide +kernel
theorem dX11_isText_16 : decode cX11_isText 16 = .ok (.iconst 0, 1) := by decide +kernel
theorem dX11_isText_17 : decode cX11_isText 17 = .ok (.ireturn, 1) := by decide +kernel
theorem dX11_isText_18 : decode cX11_isText 18 = .ok (.aload_n 0, 1) := by decide +kernel
theorem dX11_isText_19 : decode cX11_isText 19 = .ok (.getfield 257, 3) := by decide +kernel
theorem dX11_isText_22 : decode cX11_isText 22 = .ok (.ifCond .ne 5, 3) := by decide +kernel
theorem dX11_isText_25 : decode cX11_isText 25 = .ok (.iconst 1, 1) := by decide +kernel
theorem dX11_isText_26 : decode cX11_isText 26 = .ok (.ireturn, 1) := by decide +kernel
theorem dX11_isText_27 : decode cX11_isText 27 = .ok (.aload_n 0, 1) := by decide +kernel
theorem dX11_isText_28 : decode cX11_isText 28 = .ok (.getfield 257, 3) := by decide +kernel
theorem dX11_isText_31 : decode cX11_isText 31 = .ok (.bipush 59, 2) := by decide +kernel
theorem dX11_isText_33 : decode cX11_isText 33 = .ok (.if_icmp .eq 5, 3) := by decide +kernel
theorem dX11_isText_36 : decode cX11_isText 36 = .ok (.iconst 0, 1) := by decide +kernel
theorem dX11_isText_37 : decode cX11_isText 37 = .ok (.ireturn, 1) := by decide +kernel
theorem dX11_isText_38 : decode cX11_isText 38 = .ok (.aload_n 0, 1) := by decide +kernel
theorem dX11_isText_39 : decode cX11_isText 39 = .ok (.invokevirtual 271, 3) := by decide +kernel
theorem dX11_isText_42 : decode cX11_isText 42 = .ok (.goto (-33), 3) := by decide +kernel
theorem dX11_text_0 : decode cX11_text 0 = .ok (.aload_n 0, 1) := by decide +kernel
theorem dX11_text_1 : decode cX11_text 1 = .ok (.getfield 7, 3) := by decide +kernel
theorem dX11_text_4 : decode cX11_text 4 = .ok (.sipush 239, 3) := by decide +kernel
theorem dX11_text_7 : decode cX11_text 7 = .ok (.iaload, 1) := by decide +kernel
theorem dX11_text_8 : decode cX11_text 8 = .ok (.istore_n 1, 1) := by decide +kernel
theorem dX11_text_9 : decode cX11_text 9 = .ok (.aload_n 0, 1) := by decide +kernel
theorem dX11_text_10 : decode cX11_text 10 = .ok (.invokevirtual 288, 3) := by decide +kernel
theorem dX11_text_13 : decode cX11_text 13 = .ok (.istore_n 2, 1) := by decide +kernel
theorem dX11_text_14 : decode cX11_text 14 = .ok (.aload_n 0, 1) := by decide +kernel
theorem dX11_text_15 : decode cX11_text 15 = .ok (.iconst 0, 1) := by decide +kernel
theorem dX11_text_16 : decode cX11_text 16 = .ok (.putfield 242, 3) := by decide +kernel
theorem dX11_text_19 : decode cX11_text 19 = .ok (.iload_n 2, 1) := by decide +kernel
theorem dX11_text_20 : decode cX11_text 20 = .ok (.ifCond .eq 18, 3) := by decide +kernel
theorem dX11_text_23 : decode cX11_text 23 = .ok (.aload_n 0, 1) := by decide +kernel
theorem dX11_text_24 : decode cX11_text 24 = .ok (.aload_n 0, 1) := by decide +kernel
theorem dX11_text_25 : decode cX11_text 25 = .ok (.getfield 7, 3) := by decide +kernel
theorem dX11_text_28 : decode cX11_text 28 = .ok (.sipush 239, 3) := by decide +kernel
theorem dX11_text_31 : decode cX11_text 31 = .ok (.iaload, 1) := by decide +kernel
theorem dX11_text_32 : decode cX11_text 32 = .ok (.iload_n 1, 1) := by decide +kernel
theorem dX11_text_33 : decode cX11_text 33 = .ok (.isub, 1) := by decide +kernel
theorem dX11_text_34 : decode cX11_text 34 = .ok (.invokevirtual 167, 3) := by decide +kernel
theorem dX11_text_37 : decode cX11_text 37 = .ok (.ireturn, 1) := by decide +kernel
theorem dX11_text_38 : decode cX11_text 38 = .ok (.aload_n 0, 1) := by decide +kernel
theorem dX11_text_39 : decode cX11_text 39 = .ok (.getfield 7, 3) := by decide +kernel
theorem dX11_text_42 : decode cX11_text 42 = .ok (.sipush 239, 3) := by decide +kernel
theorem dX11_text_45 : decode cX11_text 45 = .ok (.iload_n 1, 1) := by decide +kernel
theorem dX11_text_46 : decode cX11_text 46 = .ok (.iastore, 1) := by decide +kernel
theorem dX11_text_47 : decode cX11_text 47 = .ok (.bipush (-100), 2) := by decide +kernel
theorem dX11_text_49 : decode cX11_text 49 = .ok (.aload_n 0, 1) := by decide +kernel
theorem dX11_text_50 : decode cX11_text 50 = .ok (.getfield 251, 3) := by decide +kernel
theorem dX11_text_53 : decode cX11_text 53 = .ok (.isub, 1) := by decide +kernel
theorem dX11_text_54 : decode cX11_text 54 = .ok (.ireturn, 1) := by decide +kernel
theorem dX11_says_0 : decode cX11_says 0 = .ok (.aload_n 0, 1) := by decide +kernel
theorem dX11_says_1 : decode cX11_says 1 = .ok (.getfield 81, 3) := by decide +kernel
theorem dX11_says_4 : decode cX11_says 4 = .ok (.bipush 40, 2) := by decide +kernel
theorem dX11_says_6 : decode cX11_says 6 = .ok (.iload_n 1, 1) := by decide +kernel
theorem dX11_says_7 : decode cX11_says 7 = .ok (.imul, 1) := by decide +kernel
theorem dX11_says_8 : decode cX11_says 8 = .ok (.aload_n 0, 1) := by decide +kernel
theorem dX11_says_9 : decode cX11_says 9 = .ok (.getfield 291, 3) := by decide +kernel
theorem dX11_says_12 : decode cX11_says 12 = .ok (.iadd, 1) := by decide +kernel
theorem dX11_says_13 : decode cX11_says 13 = .ok (.iload_n 2, 1) := by decide +kernel
theorem dX11_says_14 : decode cX11_says 14 = .ok (.iastore, 1) := by decide +kernel
theorem dX11_says_15 : decode cX11_says 15 = .ok (.aload_n 0, 1) := by decide +kernel
theorem dX11_says_16 : decode cX11_says 16 = .ok (.dup, 1) := by decide +kernel
theorem dX11_says_17 : decode cX11_says 17 = .ok (.getfield 291, 3) := by decide +kernel
theorem dX11_says_20 : decode cX11_says 20 = .ok (.iconst 1, 1) := by decide +kernel
theorem dX11_says_21 : decode cX11_says 21 = .ok (.iadd, 1) := by decide +kernel
theorem dX11_says_22 : decode cX11_says 22 = .ok (.putfield 291, 3) := by decide +kernel
theorem dX11_says_25 : decode cX11_says 25 = .ok (.return_, 1) := by decide +kernel
theorem dX11_saysWord_0 : decode cX11_saysWord 0 = .ok (.aload_n 0, 1) := by decide +kernel
theorem dX11_saysWord_1 : decode cX11_saysWord 1 = .ok (.getfield 291, 3) := by decide +kernel
theorem dX11_saysWord_4 : decode cX11_saysWord 4 = .ok (.ifCond .le 10, 3) := by decide +kernel
theorem dX11_saysWord_7 : decode cX11_saysWord 7 = .ok (.aload_n 0, 1) := by decide +kernel
theorem dX11_saysWord_8 : decode cX11_saysWord 8 = .ok (.iload_n 1, 1) := by decide +kernel
theorem dX11_saysWord_9 : decode cX11_saysWord 9 = .ok (.bipush 32, 2) := by decide +kernel
theorem dX11_saysWord_11 : decode cX11_saysWord 11 = .ok (.invokevirtual 294, 3) := by decide +kernel
theorem dX11_saysWord_14 : decode cX11_saysWord 14 = .ok (.iconst 0, 1) := by decide +kernel
theorem dX11_saysWord_15 : decode cX11_saysWord 15 = .ok (.istore_n 3, 1) := by decide +kernel
theorem dX11_saysWord_16 : decode cX11_saysWord 16 = .ok (.iload_n 3, 1) := by decide +kernel
theorem dX11_saysWord_17 : decode cX11_saysWord 17 = .ok (.aload_n 2, 1) := by decide +kernel
theorem dX11_saysWord_18 : decode cX11_saysWord 18 = .ok (.invokevirtual 260, 3) := by decide +kernel
theorem dX11_saysWord_21 : decode cX11_saysWord 21 = .ok (.if_icmp .ge 19, 3) := by decide +kernel
theorem dX11_saysWord_24 : decode cX11_saysWord 24 = .ok (.aload_n 0, 1) := by decide +kernel
theorem dX11_saysWord_25 : decode cX11_saysWord 25 = .ok (.iload_n 1, 1) := by decide +kernel
theorem dX11_saysWord_26 : decode cX11_saysWord 26 = .ok (.aload_n 2, 1) := by decide +kernel
theorem dX11_saysWord_27 : decode cX11_saysWord 27 = .ok (.iload_n 3, 1) := by decide +kernel
theorem dX11_saysWord_28 : decode cX11_saysWord 28 = .ok (.invokevirtual 263, 3) := by decide +kernel
theorem dX11_saysWord_31 : decode cX11_saysWord 31 = .ok (.invokevirtual 294, 3) := by decide +kernel
theorem dX11_saysWord_34 : decode cX11_saysWord 34 = .ok (.iinc 3 1, 3) := by decide +kernel
theorem dX11_saysWord_37 : decode cX11_saysWord 37 = .ok (.goto (-21), 3) := by decide +kernel
theorem dX11_saysWord_40 : decode cX11_saysWord 40 = .ok (.return_, 1) := by decide +kernel
theorem dX11_saysNumber_0 : decode cX11_saysNumber 0 = .ok (.aload_n 0, 1) := by decide +kernel
theorem dX11_saysNumber_1 : decode cX11_saysNumber 1 = .ok (.iload_n 1, 1) := by decide +kernel
theorem dX11_saysNumber_2 : decode cX11_saysNumber 2 = .ok (.bipush 32, 2) := by decide +kernel
theorem dX11_saysNumber_4 : decode cX11_saysNumber 4 = .ok (.invokevirtual 294, 3) := by decide +kernel
theorem dX11_saysNumber_7 : decode cX11_saysNumber 7 = .ok (.iload_n 2, 1) := by decide +kernel
theorem dX11_saysNumber_8 : decode cX11_saysNumber 8 = .ok (.ifCond .ge 10, 3) := by decide +kernel
theorem dX11_saysNumber_11 : decode cX11_saysNumber 11 = .ok (.aload_n 0, 1) := by decide +kernel
theorem dX11_saysNumber_12 : decode cX11_saysNumber 12 = .ok (.iload_n 1, 1) := by decide +kernel
theorem dX11_saysNumber_13 : decode cX11_saysNumber 13 = .ok (.bipush 45, 2) := by decide +kernel
theorem dX11_saysNumber_15 : decode cX11_saysNumber 15 = .ok (.invokevirtual 294, 3) := by decide +kernel
theorem dX11_saysNumber_18 : decode cX11_saysNumber 18 = .ok (.aload_n 0, 1) := by decide +kernel
theorem dX11_saysNumber_19 : decode cX11_saysNumber 19 = .ok (.iload_n 1, 1) := by decide +kernel
theorem dX11_saysNumber_20 : decode cX11_saysNumber 20 = .ok (.bipush 48, 2) := by decide +kernel
theorem dX11_saysNumber_22 : decode cX11_saysNumber 22 = .ok (.iload_n 2, 1) := by decide +kernel
theorem dX11_saysNumber_23 : decode cX11_saysNumber 23 = .ok (.ifCond .ge 8, 3) := by decide +kernel
theorem dX11_saysNumber_26 : decode cX11_saysNumber 26 = .ok (.iload_n 2, 1) := by decide +kernel
theorem dX11_saysNumber_27 : decode cX11_saysNumber 27 = .ok (.ineg, 1) := by decide +kernel
theorem dX11_saysNumber_28 : decode cX11_saysNumber 28 = .ok (.goto 4, 3) := by decide +kernel
theorem dX11_saysNumber_31 : decode cX11_saysNumber 31 = .ok (.iload_n 2, 1) := by decide +kernel
theorem dX11_saysNumber_32 : decode cX11_saysNumber 32 = .ok (.iadd, 1) := by decide +kernel
theorem dX11_saysNumber_33 : decode cX11_saysNumber 33 = .ok (.invokevirtual 294, 3) := by decide +kernel
theorem dX11_saysNumber_36 : decode cX11_saysNumber 36 = .ok (.return_, 1) := by decide +kernel
theorem dX11_tell_0 : decode cX11_tell 0 = .ok (.aload_n 0, 1) := by decide +kernel
theorem dX11_tell_1 : decode cX11_tell 1 = .ok (.iload_n 1, 1) := by decide +kernel
theorem dX11_tell_2 : decode cX11_tell 2 = .ok (.invokevirtual 183, 3) := by decide +kernel
theorem dX11_tell_5 : decode cX11_tell 5 = .ok (.ifCond .eq 10, 3) := by decide +kernel
theorem dX11_tell_8 : decode cX11_tell 8 = .ok (.iload_n 2, 1) := by decide +kernel
theorem dX11_tell_9 : decode cX11_tell 9 = .ok (.invokestatic 297, 3) := by decide +kernel
theorem dX11_tell_12 : decode cX11_tell 12 = .ok (.ifCond .ne 6, 3) := by decide +kernel
theorem dX11_tell_15 : decode cX11_tell 15 = .ok (.bipush (-2), 2) := by decide +kernel
theorem dX11_tell_17 : decode cX11_tell 17 = .ok (.ireturn, 1) := by decide +kernel
theorem dX11_tell_18 : decode cX11_tell 18 = .ok (.aload_n 0, 1) := by decide +kernel
theorem dX11_tell_19 : decode cX11_tell 19 = .ok (.iload_n 1, 1) := by decide +kernel
theorem dX11_tell_20 : decode cX11_tell 20 = .ok (.iconst 1, 1) := by decide +kernel
theorem dX11_tell_21 : decode cX11_tell 21 = .ok (.invokevirtual 103, 3) := by decide +kernel
theorem dX11_tell_24 : decode cX11_tell 24 = .ok (.istore_n 3, 1) := by decide +kernel
theorem dX11_tell_25 : decode cX11_tell 25 = .ok (.iconst 0, 1) := by decide +kernel
theorem dX11_tell_26 : decode cX11_tell 26 = .ok (.istore 4, 2) := by decide +kernel
theorem dX11_tell_28 : decode cX11_tell 28 = .ok (.iload 4, 2) := by decide +kernel
theorem dX11_tell_30 : decode cX11_tell 30 = .ok (.bipush 40, 2) := by decide +kernel
theorem dX11_tell_32 : decode cX11_tell 32 = .ok (.if_icmp .ge 22, 3) := by decide +kernel
theorem dX11_tell_35 : decode cX11_tell 35 = .ok (.aload_n 0, 1) := by decide +kernel
theorem dX11_tell_36 : decode cX11_tell 36 = .ok (.getfield 81, 3) := by decide +kernel
theorem dX11_tell_39 : decode cX11_tell 39 = .ok (.bipush 40, 2) := by decide +kernel
theorem dX11_tell_41 : decode cX11_tell 41 = .ok (.iload_n 2, 1) := by decide +kernel
theorem dX11_tell_42 : decode cX11_tell 42 = .ok (.imul, 1) := by decide +kernel
theorem dX11_tell_43 : decode cX11_tell 43 = .ok (.iload 4, 2) := by decide +kernel
theorem dX11_tell_45 : decode cX11_tell 45 = .ok (.iadd, 1) := by decide +kernel
theorem dX11_tell_46 : decode cX11_tell 46 = .ok (.iconst 0, 1) := by decide +kernel
theorem dX11_tell_47 : decode cX11_tell 47 = .ok (.iastore, 1) := by decide +kernel
theorem dX11_tell_48 : decode cX11_tell 48 = .ok (.iinc 4 1, 3) := by decide +kernel
theorem dX11_tell_51 : decode cX11_tell 51 = .ok (.goto (-23), 3) := by decide +kernel
theorem dX11_tell_54 : decode cX11_tell 54 = .ok (.aload_n 0, 1) := by decide +kernel
theorem dX11_tell_55 : decode cX11_tell 55 = .ok (.iconst 0, 1) := by decide +kernel
theorem dX11_tell_56 : decode cX11_tell 56 = .ok (.putfield 291, 3) := by decide +kernel
theorem dX11_tell_59 : decode cX11_tell 59 = .ok (.aload_n 0, 1) := by decide +kernel
theorem dX11_tell_60 : decode cX11_tell 60 = .ok (.iload_n 2, 1) := by decide +kernel
theorem dX11_tell_61 : decode cX11_tell 61 = .ok (.aload_n 0, 1) := by decide +kernel
theorem dX11_tell_62 : decode cX11_tell 62 = .ok (.getfield 54, 3) := by decide +kernel
theorem dX11_tell_65 : decode cX11_tell 65 = .ok (.aload_n 0, 1) := by decide +kernel
theorem dX11_tell_66 : decode cX11_tell 66 = .ok (.iload_n 1, 1) := by decide +kernel
theorem dX11_tell_67 : decode cX11_tell 67 = .ok (.iconst 2, 1) := by decide +kernel
theorem dX11_tell_68 : decode cX11_tell 68 = .ok (.invokevirtual 103, 3) := by decide +kernel
theorem dX11_tell_71 : decode cX11_tell 71 = .ok (.aaload, 1) := by decide +kernel
theorem dX11_tell_72 : decode cX11_tell 72 = .ok (.invokevirtual 300, 3) := by decide +kernel
theorem dX11_tell_75 : decode cX11_tell 75 = .ok (.aload_n 0, 1) := by decide +kernel
theorem dX11_tell_76 : decode cX11_tell 76 = .ok (.iload_n 1, 1) := by decide +kernel
theorem dX11_tell_77 : decode cX11_tell 77 = .ok (.iconst 2, 1) := by decide +kernel
theorem dX11_tell_78 : decode cX11_tell 78 = .ok (.invokevirtual 103, 3) := by decide +kernel
theorem dX11_tell_81 : decode cX11_tell 81 = .ok (.ifCond .le 14, 3) := by decide +kernel
theorem dX11_tell_84 : decode cX11_tell 84 = .ok (.aload_n 0, 1) := by decide +kernel
theorem dX11_tell_85 : decode cX11_tell 85 = .ok (.iload_n 2, 1) := by decide +kernel
theorem dX11_tell_86 : decode cX11_tell 86 = .ok (.aload_n 0, 1) := by decide +kernel
theorem dX11_tell_87 : decode cX11_tell 87 = .ok (.iload_n 1, 1) := by decide +kernel
theorem dX11_tell_88 : decode cX11_tell 88 = .ok (.iconst 3, 1) := by decide +kernel
theorem dX11_tell_89 : decode cX11_tell 89 = .ok (.invokevirtual 103, 3) := by decide +kernel
theorem dX11_tell_92 : decode cX11_tell 92 = .ok (.invokevirtual 304, 3) := by decide +kernel
theorem dX11_tell_95 : decode cX11_tell 95 = .ok (.aload_n 0, 1) := by decide +kernel
theorem dX11_tell_96 : decode cX11_tell 96 = .ok (.iload_n 2, 1) := by decide +kernel
theorem dX11_tell_97 : decode cX11_tell 97 = .ok (.aload_n 0, 1) := by decide +kernel
theorem dX11_tell_98 : decode cX11_tell 98 = .ok (.getfield 69, 3) := by decide +kernel
theorem dX11_tell_101 : decode cX11_tell 101 = .ok (.iload_n 3, 1) := by decide +kernel
theorem dX11_tell_102 : decode cX11_tell 102 = .ok (.aaload, 1) := by decide +kernel
theorem dX11_tell_103 : decode cX11_tell 103 = .ok (.invokevirtual 300, 3) := by decide +kernel
theorem dX11_tell_106 : decode cX11_tell 106 = .ok (.iload_n 3, 1) := by decide +kernel
theorem dX11_tell_107 : decode cX11_tell 107 = .ok (.iconst 5, 1) := by decide +kernel
theorem dX11_tell_108 : decode cX11_tell 108 = .ok (.if_icmp .ge 14, 3) := by decide +kernel
theorem dX11_tell_111 : decode cX11_tell 111 = .ok (.aload_n 0, 1) := by decide +kernel
theorem dX11_tell_112 : decode cX11_tell 112 = .ok (.iload_n 2, 1) := by decide +kernel
theorem dX11_tell_113 : decode cX11_tell 113 = .ok (.aload_n 0, 1) := by decide +kernel
theorem dX11_tell_114 : decode cX11_tell 114 = .ok (.iload_n 1, 1) := by decide +kernel
theorem dX11_tell_115 : decode cX11_tell 115 = .ok (.iconst 4, 1) := by decide +kernel
theorem dX11_tell_116 : decode cX11_tell 116 = .ok (.invokevirtual 103, 3) := by decide +kernel
theorem dX11_tell_119 : decode cX11_tell 119 = .ok (.invokevirtual 304, 3) := by decide +kernel
theorem dX11_tell_122 : decode cX11_tell 122 = .ok (.iload_n 3, 1) := by decide +kernel
theorem dX11_tell_123 : decode cX11_tell 123 = .ok (.iconst 3, 1) := by decide +kernel
theorem dX11_tell_124 : decode cX11_tell 124 = .ok (.iconst 4, 1) := by decide +kernel
theorem dX11_tell_125 : decode cX11_tell 125 = .ok (.invokestatic 84, 3) := by decide +kernel
theorem dX11_tell_128 : decode cX11_tell 128 = .ok (.ifCond .eq 14, 3) := by decide +kernel
theorem dX11_tell_131 : decode cX11_tell 131 = .ok (.aload_n 0, 1) := by decide +kernel
theorem dX11_tell_132 : decode cX11_tell 132 = .ok (.iload_n 2, 1) := by decide +kernel
theorem dX11_tell_133 : decode cX11_tell 133 = .ok (.aload_n 0, 1) := by decide +kernel
theorem dX11_tell_134 : decode cX11_tell 134 = .ok (.iload_n 1, 1) := by decide +kernel
theorem dX11_tell_135 : decode cX11_tell 135 = .ok (.iconst 5, 1) := by decide +kernel
theorem dX11_tell_136 : decode cX11_tell 136 = .ok (.invokevirtual 103, 3) := by decide +kernel
theorem dX11_tell_139 : decode cX11_tell 139 = .ok (.invokevirtual 304, 3) := by decide +kernel
theorem dX11_tell_142 : decode cX11_tell 142 = .ok (.aload_n 0, 1) := by decide +kernel
theorem dX11_tell_143 : decode cX11_tell 143 = .ok (.getfield 75, 3) := by decide +kernel
theorem dX11_tell_146 : decode cX11_tell 146 = .ok (.iload_n 2, 1) := by decide +kernel
theorem dX11_tell_147 : decode cX11_tell 147 = .ok (.iconst 0, 1) := by decide +kernel
theorem dX11_tell_148 : decode cX11_tell 148 = .ok (.iastore, 1) := by decide +kernel
theorem dX11_tell_149 : decode cX11_tell 149 = .ok (.aload_n 0, 1) := by decide +kernel
theorem dX11_tell_150 : decode cX11_tell 150 = .ok (.getfield 78, 3) := by decide +kernel
theorem dX11_tell_153 : decode cX11_tell 153 = .ok (.iload_n 2, 1) := by decide +kernel
theorem dX11_tell_154 : decode cX11_tell 154 = .ok (.aload_n 0, 1) := by decide +kernel
theorem dX11_tell_155 : decode cX11_tell 155 = .ok (.getfield 291, 3) := by decide +kernel
theorem dX11_tell_158 : decode cX11_tell 158 = .ok (.iastore, 1) := by decide +kernel
