theorem dX11_init_0 : decode cX11_init 0 = .ok (.aload_n 0, 1) := by decide +kernel
theorem dX11_init_1 : decode cX11_init 1 = .ok (.invokespecial 1, 3) := by decide +kernel
theorem dX11_init_4 : decode cX11_init 4 = .ok (.aload_n 0, 1) := by decide +kernel
theorem dX11_init_5 : decode cX11_init 5 = .ok (.sipush 246, 3) := by decide +kernel
theorem dX11_init_8 : decode cX11_init 8 = .ok (.newarray .int, 2) := by decide +kernel
theorem dX11_init_10 : decode cX11_init 10 = .ok (.putfield 7, 3) := by decide +kernel
theorem dX11_init_13 : decode cX11_init 13 = .ok (.aload_n 0, 1) := by decide +kernel
theorem dX11_init_14 : decode cX11_init 14 = .ok (.sipush 246, 3) := by decide +kernel
theorem dX11_init_17 : decode cX11_init 17 = .ok (.newarray .int, 2) := by decide +kernel
theorem dX11_init_19 : decode cX11_init 19 = .ok (.putfield 13, 3) := by decide +kernel
theorem dX11_init_22 : decode cX11_init 22 = .ok (.aload_n 0, 1) := by decide +kernel
theorem dX11_init_23 : decode cX11_init 23 = .ok (.sipush 246, 3) := by decide +kernel
theorem dX11_init_26 : decode cX11_init 26 = .ok (.newarray .int, 2) := by decide +kernel
theorem dX11_init_28 : decode cX11_init 28 = .ok (.putfield 16, 3) := by decide +kernel
theorem dX11_init_31 : decode cX11_init 31 = .ok (.aload_n 0, 1) := by decide +kernel
theorem dX11_init_32 : decode cX11_init 32 = .ok (.bipush 32, 2) := by decide +kernel
theorem dX11_init_34 : decode cX11_init 34 = .ok (.newarray .int, 2) := by decide +kernel
theorem dX11_init_36 : decode cX11_init 36 = .ok (.putfield 19, 3) := by decide +kernel
theorem dX11_init_39 : decode cX11_init 39 = .ok (.aload_n 0, 1) := by decide +kernel
theorem dX11_init_40 : decode cX11_init 40 = .ok (.bipush 32, 2) := by decide +kernel
theorem dX11_init_42 : decode cX11_init 42 = .ok (.newarray .int, 2) := by decide +kernel
theorem dX11_init_44 : decode cX11_init 44 = .ok (.putfield 22, 3) := by decide +kernel
theorem dX11_init_47 : decode cX11_init 47 = .ok (.aload_n 0, 1) := by decide +kernel
theorem dX11_init_48 : decode cX11_init 48 = .ok (.bipush 10, 2) := by decide +kernel
theorem dX11_init_50 : decode cX11_init 50 = .ok (.newarray .int, 2) := by decide +kernel
theorem dX11_init_52 : decode cX11_init 52 = .ok (.putfield 25, 3) := by decide +kernel
theorem dX11_init_55 : decode cX11_init 55 = .ok (.aload_n 0, 1) := by decide +kernel
theorem dX11_init_56 : decode cX11_init 56 = .ok (.sipush 1024, 3) := by decide +kernel
theorem dX11_init_59 : decode cX11_init 59 = .ok (.newarray .int, 2) := by decide +kernel
theorem dX11_init_61 : decode cX11_init 61 = .ok (.putfield 28, 3) := by decide +kernel
theorem dX11_init_64 : decode cX11_init 64 = .ok (.aload_n 0, 1) := by decide +kernel
theorem dX11_init_65 : decode cX11_init 65 = .ok (.bipush 41, 2) := by decide +kernel
theorem dX11_init_67 : decode cX11_init 67 = .ok (.newarray .int, 2) := by decide +kernel
theorem dX11_init_69 : decode cX11_init 69 = .ok (.putfield 31, 3) := by decide +kernel
theorem dX11_init_72 : decode cX11_init 72 = .ok (.aload_n 0, 1) := by decide +kernel
theorem dX11_init_73 : decode cX11_init 73 = .ok (.bipush 41, 2) := by decide +kernel
theorem dX11_init_75 : decode cX11_init 75 = .ok (.newarray .int, 2) := by decide +kernel
theorem dX11_init_77 : decode cX11_init 77 = .ok (.putfield 34, 3) := by decide +kernel
theorem dX11_init_80 : decode cX11_init 80 = .ok (.aload_n 0, 1) := by decide +kernel
theorem dX11_init_81 : decode cX11_init 81 = .ok (.bipush 120, 2) := by decide +kernel
theorem dX11_init_83 : decode cX11_init 83 = .ok (.newarray .int, 2) := by decide +kernel
theorem dX11_init_85 : decode cX11_init 85 = .ok (.putfield 37, 3) := by decide +kernel
theorem dX11_init_88 : decode cX11_init 88 = .ok (.aload_n 0, 1) := by decide +kernel
theorem dX11_init_89 : decode cX11_init 89 = .ok (.bipush 6, 2) := by decide +kernel
theorem dX11_init_91 : decode cX11_init 91 = .ok (.anewarray 40, 3) := by decide +kernel
theorem dX11_init_94 : decode cX11_init 94 = .ok (.dup, 1) := by decide +kernel
theorem dX11_init_95 : decode cX11_init 95 = .ok (.iconst 0, 1) := by decide +kernel
theorem dX11_init_96 : decode cX11_init 96 = .ok (.ldc 42, 2) := by decide +kernel
theorem dX11_init_98 : decode cX11_init 98 = .ok (.aastore, 1) := by decide +kernel
theorem dX11_init_99 : decode cX11_init 99 = .ok (.dup, 1) := by decide +kernel
theorem dX11_init_100 : decode cX11_init 100 = .ok (.iconst 1, 1) := by decide +kernel
theorem dX11_init_101 : decode cX11_init 101 = .ok (.ldc 44, 2) := by decide +kernel
theorem dX11_init_103 : decode cX11_init 103 = .ok (.aastore, 1) := by decide +kernel
theorem dX11_init_104 : decode cX11_init 104 = .ok (.dup, 1) := by decide +kernel
theorem dX11_init_105 : decode cX11_init 105 = .ok (.iconst 2, 1) := by decide +kernel
theorem dX11_init_106 : decode cX11_init 106 = .ok (.ldc 46, 2) := by decide +kernel
theorem dX11_init_108 : decode cX11_init 108 = .ok (.aastore, 1) := by decide +kernel
theorem dX11_init_109 : decode cX11_init 109 = .ok (.dup, 1) := by decide +kernel
theorem dX11_init_110 : decode cX11_init 110 = .ok (.iconst 3, 1) := by decide +kernel
theorem dX11_init_111 : decode cX11_init 111 = .ok (.ldc 48, 2) := by decide +kernel
theorem dX11_init_113 : decode cX11_init 113 = .ok (.aastore, 1) := by decide +kernel
theorem dX11_init_114 : decode cX11_init 114 = .ok (.dup, 1) := by decide +kernel
theorem dX11_init_115 : decode cX11_init 115 = .ok (.iconst 4, 1) := by decide +kernel
theorem dX11_init_116 : decode cX11_init 116 = .ok (.ldc 50, 2) := by decide +kernel
theorem dX11_init_118 : decode cX11_init 118 = .ok (.aastore, 1) := by decide +kernel
theorem dX11_init_119 : decode cX11_init 119 = .ok (.dup, 1) := by decide +kernel
theorem dX11_init_120 : decode cX11_init 120 = .ok (.iconst 5, 1) := by decide +kernel
theorem dX11_init_121 : decode cX11_init 121 = .ok (.ldc 52, 2) := by decide +kernel
theorem dX11_init_123 : decode cX11_init 123 = .ok (.aastore, 1) := by decide +kernel
theorem dX11_init_124 : decode cX11_init 124 = .ok (.putfield 54, 3) := by decide +kernel
theorem dX11_init_127 : decode cX11_init 127 = .ok (.aload_n 0, 1) := by decide +kernel
theorem dX11_init_128 : decode cX11_init 128 = .ok (.bipush 6, 2) := by decide +kernel
theorem dX11_init_130 : decode cX11_init 130 = .ok (.anewarray 40, 3) := by decide +kernel
theorem dX11_init_133 : decode cX11_init 133 = .ok (.dup, 1) := by decide +kernel
theorem dX11_init_134 : decode cX11_init 134 = .ok (.iconst 0, 1) := by decide +kernel
theorem dX11_init_135 : decode cX11_init 135 = .ok (.ldc 58, 2) := by decide +kernel
theorem dX11_init_137 : decode cX11_init 137 = .ok (.aastore, 1) := by decide +kernel
theorem dX11_init_138 : decode cX11_init 138 = .ok (.dup, 1) := by decide +kernel
theorem dX11_init_139 : decode cX11_init 139 = .ok (.iconst 1, 1) := by decide +kernel
theorem dX11_init_140 : decode cX11_init 140 = .ok (.ldc 59, 2) := by decide +kernel
theorem dX11_init_142 : decode cX11_init 142 = .ok (.aastore, 1) := by decide +kernel
theorem dX11_init_143 : decode cX11_init 143 = .ok (.dup, 1) := by decide +kernel
theorem dX11_init_144 : decode cX11_init 144 = .ok (.iconst 2, 1) := by decide +kernel
theorem dX11_init_145 : decode cX11_init 145 = .ok (.ldc 61, 2) := by decide +kernel
theorem dX11_init_147 : decode cX11_init 147 = .ok (.aastore, 1) := by decide +kernel
theorem dX11_init_148 : decode cX11_init 148 = .ok (.dup, 1) := by decide +kernel
theorem dX11_init_149 : decode cX11_init 149 = .ok (.iconst 3, 1) := by decide +kernel
theorem dX11_init_150 : decode cX11_init 150 = .ok (.ldc 63, 2) := by decide +kernel
theorem dX11_init_152 : decode cX11_init 152 = .ok (.aastore, 1) := by decide +kernel
theorem dX11_init_153 : decode cX11_init 153 = .ok (.dup, 1) := by decide +kernel
theorem dX11_init_154 : decode cX11_init 154 = .ok (.iconst 4, 1) := by decide +kernel
theorem dX11_init_155 : decode cX11_init 155 = .ok (.ldc 65, 2) := by decide +kernel
theorem dX11_init_157 : decode cX11_init 157 = .ok (.aastore, 1) := by decide +kernel
theorem dX11_init_158 : decode cX11_init 158 = .ok (.dup, 1) := by decide +kernel
theorem dX11_init_159 : decode cX11_init 159 = .ok (.iconst 5, 1) := by decide +kernel
theorem dX11_init_160 : decode cX11_init 160 = .ok (.ldc 67, 2) := by decide +kernel
theorem dX11_init_162 : decode cX11_init 162 = .ok (.aastore, 1) := by decide +kernel
theorem dX11_init_163 : decode cX11_init 163 = .ok (.putfield 69, 3) := by decide +kernel
theorem dX11_init_166 : decode cX11_init 166 = .ok (.aload_n 0, 1) := by decide +kernel
theorem dX11_init_167 : decode cX11_init 167 = .ok (.iconst 3, 1) := by decide +kernel
theorem dX11_init_168 : decode cX11_init 168 = .ok (.newarray .int, 2) := by decide +kernel
theorem dX11_init_170 : decode cX11_init 170 = .ok (.putfield 72, 3) := by decide +kernel
theorem dX11_init_173 : decode cX11_init 173 = .ok (.aload_n 0, 1) := by decide +kernel
theorem dX11_init_174 : decode cX11_init 174 = .ok (.iconst 4, 1) := by decide +kernel
theorem dX11_init_175 : decode cX11_init 175 = .ok (.newarray .int, 2) := by decide +kernel
theorem dX11_init_177 : decode cX11_init 177 = .ok (.dup, 1) := by decide +kernel
theorem dX11_init_178 : decode cX11_init 178 = .ok (.iconst 0, 1) := by decide +kernel
theorem dX11_init_179 : decode cX11_init 179 = .ok (.iconst (-1), 1) := by decide +kernel
theorem dX11_init_180 : decode cX11_init 180 = .ok (.iastore, 1) := by decide +kernel
theorem dX11_init_181 : decode cX11_init 181 = .ok (.dup, 1) := by decide +kernel
theorem dX11_init_182 : decode cX11_init 182 = .ok (.iconst 1, 1) := by decide +kernel
theorem dX11_init_183 : decode cX11_init 183 = .ok (.iconst (-1), 1) := by decide +kernel
theorem dX11_init_184 : decode cX11_init 184 = .ok (.iastore, 1) := by decide +kernel
theorem dX11_init_185 : decode cX11_init 185 = .ok (.dup, 1) := by decide +kernel
theorem dX11_init_186 : decode cX11_init 186 = .ok (.iconst 2, 1) := by decide +kernel
theorem dX11_init_187 : decode cX11_init 187 = .ok (.iconst (-1), 1) := by decide +kernel
theorem dX11_init_188 : decode cX11_init 188 = .ok (.iastore, 1) := by decide +kernel
theorem dX11_init_189 : decode cX11_init 189 = .ok (.dup, 1) := by decide +kernel
theorem dX11_init_190 : decode cX11_init 190 = .ok (.iconst 3, 1) := by decide +kernel
theorem dX11_init_191 : decode cX11_init 191 = .ok (.iconst (-1), 1) := by decide +kernel
theorem dX11_init_192 : decode cX11_init 192 = .ok (.iastore, 1) := by decide +kernel
theorem dX11_init_193 : decode cX11_init 193 = .ok (.putfield 75, 3) := by decide +kernel
theorem dX11_init_196 : decode cX11_init 196 = .ok (.aload_n 0, 1) := by decide +kernel
theorem dX11_init_197 : decode cX11_init 197 = .ok (.iconst 4, 1) := by decide +kernel
theorem dX11_init_198 : decode cX11_init 198 = .ok (.newarray .int, 2) := by decide +kernel
theorem dX11_init_200 : decode cX11_init 200 = .ok (.putfield 78, 3) := by decide +kernel
theorem dX11_init_203 : decode cX11_init 203 = .ok (.aload_n 0, 1) := by decide +kernel
theorem dX11_init_204 : decode cX11_init 204 = .ok (.sipush 160, 3) := by decide +kernel
theorem dX11_init_207 : decode cX11_init 207 = .ok (.newarray .int, 2) := by decide +kernel
theorem dX11_init_209 : decode cX11_init 209 = .ok (.putfield 81, 3) := by decide +kernel
theorem dX11_init_212 : decode cX11_init 212 = .ok (.aload_n 0, 1) := by decide +kernel
theorem dX11_init_213 : decode cX11_init 213 = .ok (.getfield 7, 3) := by decide +kernel
theorem dX11_init_216 : decode cX11_init 216 = .ok (.sipush 245, 3) := by decide +kernel
theorem dX11_init_219 : decode cX11_init 219 = .ok (.iconst 1, 1) := by decide +kernel
theorem dX11_init_220 : decode cX11_init 220 = .ok (.iastore, 1) := by decide +kernel
theorem dX11_init_221 : decode cX11_init 221 = .ok (.return_, 1) := by decide +kernel
theorem dX11_in_0 : decode cX11_in 0 = .ok (.iload_n 0, 1) := by decide +kernel
theorem dX11_in_1 : decode cX11_in 1 = .ok (.iload_n 1, 1) := by decide +kernel
theorem dX11_in_2 : decode cX11_in 2 = .ok (.if_icmp .lt 12, 3) := by decide +kernel
theorem dX11_in_5 : decode cX11_in 5 = .ok (.iload_n 0, 1) := by decide +kernel
theorem dX11_in_6 : decode cX11_in 6 = .ok (.iload_n 2, 1) := by decide +kernel
theorem dX11_in_7 : decode cX11_in 7 = .ok (.if_icmp .gt 7, 3) := by decide +kernel
theorem dX11_in_10 : decode cX11_in 10 = .ok (.iconst 1, 1) := by decide +kernel
theorem dX11_in_11 : decode cX11_in 11 = .ok (.goto 4, 3) := by decide +kernel
theorem dX11_in_14 : decode cX11_in 14 = .ok (.iconst 0, 1) := by decide +kernel
theorem dX11_in_15 : decode cX11_in 15 = .ok (.ireturn, 1) := by decide +kernel
theorem dX11_has_0 : decode cX11_has 0 = .ok (.iload_n 0, 1) := by decide +kernel
theorem dX11_has_1 : decode cX11_has 1 = .ok (.iload_n 1, 1) := by decide +kernel
theorem dX11_has_2 : decode cX11_has 2 = .ok (.ishr, 1) := by decide +kernel
theorem dX11_has_3 : decode cX11_has 3 = .ok (.iconst 1, 1) := by decide +kernel
theorem dX11_has_4 : decode cX11_has 4 = .ok (.iand, 1) := by decide +kernel
theorem dX11_has_5 : decode cX11_has 5 = .ok (.iconst 1, 1) := by decide +kernel
theorem dX11_has_6 : decode cX11_has 6 = .ok (.if_icmp .ne 7, 3) := by decide +kernel
theorem dX11_has_9 : decode cX11_has 9 = .ok (.iconst 1, 1) := by decide +kernel
theorem dX11_has_10 : decode cX11_has 10 = .ok (.goto 4, 3) := by decide +kernel
theorem dX11_has_13 : decode cX11_has 13 = .ok (.iconst 0, 1) := by decide +kernel
theorem dX11_has_14 : decode cX11_has 14 = .ok (.ireturn, 1) := by decide +kernel
theorem dX11_copies_0 : decode cX11_copies 0 = .ok (.iconst 0, 1) := by decide +kernel
theorem dX11_copies_1 : decode cX11_copies 1 = .ok (.istore_n 2, 1) := by decide +kernel
theorem dX11_copies_2 : decode cX11_copies 2 = .ok (.iload_n 2, 1) := by decide +kernel
theorem dX11_copies_3 : decode cX11_copies 3 = .ok (.sipush 246, 3) := by decide +kernel
theorem dX11_copies_6 : decode cX11_copies 6 = .ok (.if_icmp .ge 15, 3) := by decide +kernel
theorem dX11_copies_9 : decode cX11_copies 9 = .ok (.aload_n 1, 1) := by decide +kernel
theorem dX11_copies_10 : decode cX11_copies 10 = .ok (.iload_n 2, 1) := by decide +kernel
theorem dX11_copies_11 : decode cX11_copies 11 = .ok (.aload_n 0, 1) := by decide +kernel
theorem dX11_copies_12 : decode cX11_copies 12 = .ok (.iload_n 2, 1) := by decide +kernel
theorem dX11_copies_13 : decode cX11_copies 13 = .ok (.iaload, 1) := by decide +kernel
theorem dX11_copies_14 : decode cX11_copies 14 = .ok (.iastore, 1) := by decide +kernel
theorem dX11_copies_15 : decode cX11_copies 15 = .ok (.iinc 2 1, 3) := by decide +kernel
theorem dX11_copies_18 : decode cX11_copies 18 = .ok (.goto (-16), 3) := by decide +kernel
theorem dX11_copies_21 : decode cX11_copies 21 = .ok (.return_, 1) := by decide +kernel
theorem dX11_isThing_0 : decode cX11_isThing 0 = .ok (.iload_n 1, 1) := by decide +kernel
theorem dX11_isThing_1 : decode cX11_isThing 1 = .ok (.iconst 0, 1) := by decide +kernel
theorem dX11_isThing_2 : decode cX11_isThing 2 = .ok (.aload_n 0, 1) := by decide +kernel
theorem dX11_isThing_3 : decode cX11_isThing 3 = .ok (.getfield 7, 3) := by decide +kernel
theorem dX11_isThing_6 : decode cX11_isThing 6 = .ok (.sipush 238, 3) := by decide +kernel
theorem dX11_isThing_9 : decode cX11_isThing 9 = .ok (.iaload, 1) := by decide +kernel
theorem dX11_isThing_10 : decode cX11_isThing 10 = .ok (.iconst 1, 1) := by decide +kernel
theorem dX11_isThing_11 : decode cX11_isThing 11 = .ok (.isub, 1) := by decide +kernel
theorem dX11_isThing_12 : decode cX11_isThing 12 = .ok (.invokestatic 84, 3) := by decide +kernel
theorem dX11_isThing_15 : decode cX11_isThing 15 = .ok (.ireturn, 1) := by decide +kernel
theorem dX11_its_0 : decode cX11_its 0 = .ok (.aload_n 0, 1) := by decide +kernel
theorem dX11_its_1 : decode cX11_its 1 = .ok (.getfield 7, 3) := by decide +kernel
theorem dX11_its_4 : decode cX11_its 4 = .ok (.iconst 0, 1) := by decide +kernel
theorem dX11_its_5 : decode cX11_its 5 = .ok (.bipush 10, 2) := by decide +kernel
theorem dX11_its_7 : decode cX11_its 7 = .ok (.iload_n 1, 1) := by decide +kernel
theorem dX11_its_8 : decode cX11_its 8 = .ok (.imul, 1) := by decide +kernel
theorem dX11_its_9 : decode cX11_its 9 = .ok (.iadd, 1) := by decide +kernel
theorem dX11_its_10 : decode cX11_its 10 = .ok (.iload_n 2, 1) := by decide +kernel
theorem dX11_its_11 : decode cX11_its 11 = .ok (.iadd, 1) := by decide +kernel
theorem dX11_its_12 : decode cX11_its 12 = .ok (.iaload, 1) := by decide +kernel
theorem dX11_its_13 : decode cX11_its 13 = .ok (.ireturn, 1) := by decide +kernel
theorem dX11_isAlive_0 : decode cX11_isAlive 0 = .ok (.aload_n 0, 1) := by decide +kernel
theorem dX11_isAlive_1 : decode cX11_isAlive 1 = .ok (.iload_n 1, 1) := by decide +kernel
theorem dX11_isAlive_2 : decode cX11_isAlive 2 = .ok (.invokevirtual 88, 3) := by decide +kernel
theorem dX11_isAlive_5 : decode cX11_isAlive 5 = .ok (.ifCond .eq 17, 3) := by decide +kernel
theorem dX11_isAlive_8 : decode cX11_isAlive 8 = .ok (.aload_n 0, 1) := by decide +kernel
theorem dX11_isAlive_9 : decode cX11_isAlive 9 = .ok (.iload_n 1, 1) := by decide +kernel
theorem dX11_isAlive_10 : decode cX11_isAlive 10 = .ok (.iconst 5, 1) := by decide +kernel
theorem dX11_isAlive_11 : decode cX11_isAlive 11 = .ok (.invokevirtual 92, 3) := by decide +kernel
theorem dX11_isAlive_14 : decode cX11_isAlive 14 = .ok (.iconst 1, 1) := by decide +kernel
theorem dX11_isAlive_15 : decode cX11_isAlive 15 = .ok (.if_icmp .ne 7, 3) := by decide +kernel
theorem dX11_isAlive_18 : decode cX11_isAlive 18 = .ok (.iconst 1, 1) := by decide +kernel
theorem dX11_isAlive_19 : decode cX11_isAlive 19 = .ok (.goto 4, 3) := by decide +kernel
theorem dX11_isAlive_22 : decode cX11_isAlive 22 = .ok (.iconst 0, 1) := by decide +kernel
theorem dX11_isAlive_23 : decode cX11_isAlive 23 = .ok (.ireturn, 1) := by decide +kernel
theorem dX11_effectIs_0 : decode cX11_effectIs 0 = .ok (.aload_n 0, 1) := by decide +kernel
theorem dX11_effectIs_1 : decode cX11_effectIs 1 = .ok (.getfield 7, 3) := by decide +kernel
theorem dX11_effectIs_4 : decode cX11_effectIs 4 = .ok (.bipush 80, 2) := by decide +kernel
theorem dX11_effectIs_6 : decode cX11_effectIs 6 = .ok (.bipush 7, 2) := by decide +kernel
theorem dX11_effectIs_8 : decode cX11_effectIs 8 = .ok (.iload_n 1, 1) := by decide +kernel
theorem dX11_effectIs_9 : decode cX11_effectIs 9 = .ok (.imul, 1) := by decide +kernel
theorem dX11_effectIs_10 : decode cX11_effectIs 10 = .ok (.iadd, 1) := by decide +kernel
theorem dX11_effectIs_11 : decode cX11_effectIs 11 = .ok (.iload_n 2, 1) := by decide +kernel
theorem dX11_effectIs_12 : decode cX11_effectIs 12 = .ok (.iadd, 1) := by decide +kernel
theorem dX11_effectIs_13 : decode cX11_effectIs 13 = .ok (.iaload, 1) := by decide +kernel
theorem dX11_effectIs_14 : decode cX11_effectIs 14 = .ok (.ireturn, 1) := by decide +kernel
theorem dX11_isEffect_0 : decode cX11_isEffect 0 = .ok (.iload_n 1, 1) := by decide +kernel
theorem dX11_isEffect_1 : decode cX11_isEffect 1 = .ok (.iconst 0, 1) := by decide +kernel
theorem dX11_isEffect_2 : decode cX11_isEffect 2 = .ok (.aload_n 0, 1) := by decide +kernel
theorem dX11_isEffect_3 : decode cX11_isEffect 3 = .ok (.getfield 7, 3) := by decide +kernel
theorem dX11_isEffect_6 : decode cX11_isEffect 6 = .ok (.sipush 239, 3) := by decide +kernel
theorem dX11_isEffect_9 : decode cX11_isEffect 9 = .ok (.iaload, 1) := by decide +kernel
theorem dX11_isEffect_10 : decode cX11_isEffect 10 = .ok (.iconst 1, 1) := by decide +kernel
theorem dX11_isEffect_11 : decode cX11_isEffect 11 = .ok (.isub, 1) := by decide +kernel
theorem dX11_isEffect_12 : decode cX11_isEffect 12 = .ok (.invokestatic 84, 3) := by decide +kernel
theorem dX11_isEffect_15 : decode cX11_isEffect 15 = .ok (.ireturn, 1) := by decide +kernel
theorem dX11_watcher_0 : decode cX11_watcher 0 = .ok (.aload_n 0, 1) := by decide +kernel
theorem dX11_watcher_1 : decode cX11_watcher 1 = .ok (.getfield 7, 3) := by decide +kernel
theorem dX11_watcher_4 : decode cX11_watcher 4 = .ok (.sipush 182, 3) := by decide +kernel
theorem dX11_watcher_7 : decode cX11_watcher 7 = .ok (.bipush 7, 2) := by decide +kernel
theorem dX11_watcher_9 : decode cX11_watcher 9 = .ok (.iload_n 1, 1) := by decide +kernel
theorem dX11_watcher_10 : decode cX11_watcher 10 = .ok (.imul, 1) := by decide +kernel
theorem dX11_watcher_11 : decode cX11_watcher 11 = .ok (.iadd, 1) := by decide +kernel
theorem dX11_watcher_12 : decode cX11_watcher 12 = .ok (.iload_n 2, 1) := by decide +kernel
theorem dX11_watcher_13 : decode cX11_watcher 13 = .ok (.iadd, 1) := by decide +kernel
theorem dX11_watcher_14 : decode cX11_watcher 14 = .ok (.iaload, 1) := by decide +kernel
theorem dX11_watcher_15 : decode cX11_watcher 15 = .ok (.ireturn, 1) := by decide +kernel
theorem dX11_isScope_0 : decode cX11_isScope 0 = .ok (.iload_n 0, 1) := by decide +kernel
theorem dX11_isScope_1 : decode cX11_isScope 1 = .ok (.ifCond .eq 40, 3) := by decide +kernel
theorem dX11_isScope_4 : decode cX11_isScope 4 = .ok (.iload_n 0, 1) := by decide +kernel
theorem dX11_isScope_5 : decode cX11_isScope 5 = .ok (.iconst 1, 1) := by decide +kernel
theorem dX11_isScope_6 : decode cX11_isScope 6 = .ok (.iconst 5, 1) := by decide +kernel
theorem dX11_isScope_7 : decode cX11_isScope 7 = .ok (.invokestatic 84, 3) := by decide +kernel
theorem dX11_isScope_10 : decode cX11_isScope 10 = .ok (.ifCond .eq 35, 3) := by decide +kernel
theorem dX11_isScope_13 : decode cX11_isScope 13 = .ok (.iload_n 1, 1) := by decide +kernel
theorem dX11_isScope_14 : decode cX11_isScope 14 = .ok (.iconst 0, 1) := by decide +kernel
theorem dX11_isScope_15 : decode cX11_isScope 15 = .ok (.iload_n 0, 1) := by decide +kernel
theorem dX11_isScope_16 : decode cX11_isScope 16 = .ok (.iconst 1, 1) := by decide +kernel
theorem dX11_isScope_17 : decode cX11_isScope 17 = .ok (.if_icmp .ne 7, 3) := by decide +kernel
theorem dX11_isScope_20 : decode cX11_isScope 20 = .ok (.iconst 1, 1) := by decide +kernel
theorem dX11_isScope_21 : decode cX11_isScope 21 = .ok (.goto 14, 3) := by decide +kernel
theorem dX11_isScope_24 : decode cX11_isScope 24 = .ok (.iload_n 0, 1) := by decide +kernel
theorem dX11_isScope_25 : decode cX11_isScope 25 = .ok (.iconst 5, 1) := by decide +kernel
theorem dX11_isScope_26 : decode cX11_isScope 26 = .ok (.if_icmp .ne 8, 3) := by decide +kernel
theorem dX11_isScope_29 : decode cX11_isScope 29 = .ok (.bipush 7, 2) := by decide +kernel
theorem dX11_isScope_31 : decode cX11_isScope 31 = .ok (.goto 4, 3) := by decide +kernel
theorem dX11_isScope_34 : decode cX11_isScope 34 = .ok (.iconst 5, 1) := by decide +kernel
theorem dX11_isScope_35 : decode cX11_isScope 35 = .ok (.invokestatic 84, 3) := by decide +kernel
theorem dX11_isScope_38 : decode cX11_isScope 38 = .ok (.ifCond .eq 7, 3) := by decide +kernel
theorem dX11_isScope_41 : decode cX11_isScope 41 = .ok (.iconst 1, 1) := by decide +kernel
theorem dX11_isScope_42 : decode cX11_isScope 42 = .ok (.goto 4, 3) := by decide +kernel
theorem dX11_isScope_45 : decode cX11_isScope 45 = .ok (.iconst 0, 1) := by decide +kernel
theorem dX11_isScope_46 : decode cX11_isScope 46 = .ok (.ireturn, 1) := by decide +kernel
theorem dX11_inScope_0 : decode cX11_inScope 0 = .ok (.iconst 0, 1) := by decide +kernel
theorem dX11_inScope_1 : decode cX11_inScope 1 = .ok (.istore 4, 2) := by decide +kernel
theorem dX11_inScope_3 : decode cX11_inScope 3 = .ok (.iconst 0, 1) := by decide +kernel
theorem dX11_inScope_4 : decode cX11_inScope 4 = .ok (.istore 5, 2) := by decide +kernel
theorem dX11_inScope_6 : decode cX11_inScope 6 = .ok (.iload 5, 2) := by decide +kernel
theorem dX11_inScope_8 : decode cX11_inScope 8 = .ok (.aload_n 0, 1) := by decide +kernel
theorem dX11_inScope_9 : decode cX11_inScope 9 = .ok (.getfield 7, 3) := by decide +kernel
theorem dX11_inScope_12 : decode cX11_inScope 12 = .ok (.sipush 238, 3) := by decide +kernel
theorem dX11_inScope_15 : decode cX11_inScope 15 = .ok (.iaload, 1) := by decide +kernel
theorem dX11_inScope_16 : decode cX11_inScope 16 = .ok (.if_icmp .ge 136, 3) := by decide +kernel
theorem dX11_inScope_19 : decode cX11_inScope 19 = .ok (.iload_n 2, 1) := by decide +kernel
theorem dX11_inScope_20 : decode cX11_inScope 20 = .ok (.ifCond .eq 92, 3) := by decide +kernel
theorem dX11_inScope_23 : decode cX11_inScope 23 = .ok (.iload_n 2, 1) := by decide +kernel
theorem dX11_inScope_24 : decode cX11_inScope 24 = .ok (.iconst 1, 1) := by decide +kernel
theorem dX11_inScope_25 : decode cX11_inScope 25 = .ok (.if_icmp .ne 17, 3) := by decide +kernel
theorem dX11_inScope_28 : decode cX11_inScope 28 = .ok (.aload_n 0, 1) := by decide +kernel
theorem dX11_inScope_29 : decode cX11_inScope 29 = .ok (.iload 5, 2) := by decide +kernel
theorem dX11_inScope_31 : decode cX11_inScope 31 = .ok (.iconst 0, 1) := by decide +kernel
theorem dX11_inScope_32 : decode cX11_inScope 32 = .ok (.invokevirtual 92, 3) := by decide +kernel
theorem dX11_inScope_35 : decode cX11_inScope 35 = .ok (.iload_n 3, 1) := by decide +kernel
theorem dX11_inScope_36 : decode cX11_inScope 36 = .ok (.if_icmp .ne 80, 3) := by decide +kernel
theorem dX11_inScope_39 : decode cX11_inScope 39 = .ok (.goto 73, 3) := by decide +kernel
theorem dX11_inScope_42 : decode cX11_inScope 42 = .ok (.iload_n 2, 1) := by decide +kernel
theorem dX11_inScope_43 : decode cX11_inScope 43 = .ok (.iconst 2, 1) := by decide +kernel
theorem dX11_inScope_44 : decode cX11_inScope 44 = .ok (.if_icmp .ne 16, 3) := by decide +kernel
theorem dX11_inScope_47 : decode cX11_inScope 47 = .ok (.aload_n 1, 1) := by decide +kernel
theorem dX11_inScope_48 : decode cX11_inScope 48 = .ok (.iconst 4, 1) := by decide +kernel
theorem dX11_inScope_49 : decode cX11_inScope 49 = .ok (.iload 5, 2) := by decide +kernel
theorem dX11_inScope_51 : decode cX11_inScope 51 = .ok (.imul, 1) := by decide +kernel
theorem dX11_inScope_52 : decode cX11_inScope 52 = .ok (.iaload, 1) := by decide +kernel
theorem dX11_inScope_53 : decode cX11_inScope 53 = .ok (.iload_n 3, 1) := by decide +kernel
theorem dX11_inScope_54 : decode cX11_inScope 54 = .ok (.if_icmp .ne 62, 3) := by decide +kernel
theorem dX11_inScope_57 : decode cX11_inScope 57 = .ok (.goto 55, 3) := by decide +kernel
theorem dX11_inScope_60 : decode cX11_inScope 60 = .ok (.iload_n 2, 1) := by decide +kernel
theorem dX11_inScope_61 : decode cX11_inScope 61 = .ok (.iconst 3, 1) := by decide +kernel
theorem dX11_inScope_62 : decode cX11_inScope 62 = .ok (.if_icmp .ne 21, 3) := by decide +kernel
theorem dX11_inScope_65 : decode cX11_inScope 65 = .ok (.aload_n 1, 1) := by decide +kernel
theorem dX11_inScope_66 : decode cX11_inScope 66 = .ok (.iconst 4, 1) := by decide +kernel
theorem dX11_inScope_67 : decode cX11_inScope 67 = .ok (.iload 5, 2) := by decide +kernel
theorem dX11_inScope_69 : decode cX11_inScope 69 = .ok (.imul, 1) := by decide +kernel
theorem dX11_inScope_70 : decode cX11_inScope 70 = .ok (.iconst 1, 1) := by decide +kernel
theorem dX11_inScope_71 : decode cX11_inScope 71 = .ok (.iadd, 1) := by decide +kernel
theorem dX11_inScope_72 : decode cX11_inScope 72 = .ok (.iaload, 1) := by decide +kernel
theorem dX11_inScope_73 : decode cX11_inScope 73 = .ok (.iload_n 3, 1) := by decide +kernel
theorem dX11_inScope_74 : decode cX11_inScope 74 = .ok (.invokestatic 96, 3) := by decide +kernel
theorem dX11_inScope_77 : decode cX11_inScope 77 = .ok (.ifCond .eq 39, 3) := by decide +kernel
theorem dX11_inScope_80 : decode cX11_inScope 80 = .ok (.goto 32, 3) := by decide +kernel
theorem dX11_inScope_83 : decode cX11_inScope 83 = .ok (.iload_n 2, 1) := by decide +kernel
theorem dX11_inScope_84 : decode cX11_inScope 84 = .ok (.iconst 4, 1) := by decide +kernel
theorem dX11_inScope_85 : decode cX11_inScope 85 = .ok (.if_icmp .ne 21, 3) := by decide +kernel
theorem dX11_inScope_88 : decode cX11_inScope 88 = .ok (.aload_n 1, 1) := by decide +kernel
theorem dX11_inScope_89 : decode cX11_inScope 89 = .ok (.iconst 4, 1) := by decide +kernel
theorem dX11_inScope_90 : decode cX11_inScope 90 = .ok (.iload 5, 2) := by decide +kernel
theorem dX11_inScope_92 : decode cX11_inScope 92 = .ok (.imul, 1) := by decide +kernel
theorem dX11_inScope_93 : decode cX11_inScope 93 = .ok (.iconst 1, 1) := by decide +kernel
theorem dX11_inScope_94 : decode cX11_inScope 94 = .ok (.iadd, 1) := by decide +kernel
theorem dX11_inScope_95 : decode cX11_inScope 95 = .ok (.iaload, 1) := by decide +kernel
theorem dX11_inScope_96 : decode cX11_inScope 96 = .ok (.iload_n 3, 1) := by decide +kernel
theorem dX11_inScope_97 : decode cX11_inScope 97 = .ok (.invokestatic 96, 3) := by decide +kernel
theorem dX11_inScope_100 : decode cX11_inScope 100 = .ok (.ifCond .ne 16, 3) := by decide +kernel
theorem dX11_inScope_103 : decode cX11_inScope 103 = .ok (.goto 9, 3) := by decide +kernel
theorem dX11_inScope_106 : decode cX11_inScope 106 = .ok (.iload 5, 2) := by decide +kernel
theorem dX11_inScope_108 : decode cX11_inScope 108 = .ok (.iload_n 3, 1) := by decide +kernel
theorem dX11_inScope_109 : decode cX11_inScope 109 = .ok (.if_icmp .ne 7, 3) := by decide +kernel
theorem dX11_inScope_112 : decode cX11_inScope 112 = .ok (.iconst 1, 1) := by decide +kernel
theorem dX11_inScope_113 : decode cX11_inScope 113 = .ok (.goto 4, 3) := by decide +kernel
theorem dX11_inScope_116 : decode cX11_inScope 116 = .ok (.iconst 0, 1) := by decide +kernel
theorem dX11_inScope_117 : decode cX11_inScope 117 = .ok (.istore 6, 2) := by decide +kernel
theorem dX11_inScope_119 : decode cX11_inScope 119 = .ok (.iload 4, 2) := by decide +kernel
theorem dX11_inScope_121 : decode cX11_inScope 121 = .ok (.iload 6, 2) := by decide +kernel
theorem dX11_inScope_123 : decode cX11_inScope 123 = .ok (.ifCond .eq 19, 3) := by decide +kernel
theorem dX11_inScope_126 : decode cX11_inScope 126 = .ok (.aload_n 0, 1) := by decide +kernel
theorem dX11_inScope_127 : decode cX11_inScope 127 = .ok (.iload 5, 2) := by decide +kernel
theorem dX11_inScope_129 : decode cX11_inScope 129 = .ok (.invokevirtual 100, 3) := by decide +kernel
theorem dX11_inScope_132 : decode cX11_inScope 132 = .ok (.ifCond .eq 10, 3) := by decide +kernel
theorem dX11_inScope_135 : decode cX11_inScope 135 = .ok (.iconst 1, 1) := by decide +kernel
theorem dX11_inScope_136 : decode cX11_inScope 136 = .ok (.iload 5, 2) := by decide +kernel
theorem dX11_inScope_138 : decode cX11_inScope 138 = .ok (.ishl, 1) := by decide +kernel
theorem dX11_inScope_139 : decode cX11_inScope 139 = .ok (.goto 4, 3) := by decide +kernel
theorem dX11_inScope_142 : decode cX11_inScope 142 = .ok (.iconst 0, 1) := by decide +kernel
theorem dX11_inScope_143 : decode cX11_inScope 143 = .ok (.ior, 1) := by decide +kernel
theorem dX11_inScope_144 : decode cX11_inScope 144 = .ok (.istore 4, 2) := by decide +kernel
theorem dX11_inScope_146 : decode cX11_inScope 146 = .ok (.iinc 5 1, 3) := by decide +kernel
theorem dX11_inScope_149 : decode cX11_inScope 149 = .ok (.goto (-143), 3) := by decide +kernel
theorem dX11_inScope_152 : decode cX11_inScope 152 = .ok (.iload 4, 2) := by decide +kernel
theorem dX11_inScope_154 : decode cX11_inScope 154 = .ok (.ireturn, 1) := by decide +kernel
theorem dX11_scopeOf_0 : decode cX11_scopeOf 0 = .ok (.aload_n 0, 1) := by decide +kernel
theorem dX11_scopeOf_1 : decode cX11_scopeOf 1 = .ok (.aload_n 1, 1) := by decide +kernel
theorem dX11_scopeOf_2 : decode cX11_scopeOf 2 = .ok (.aload_n 0, 1) := by decide +kernel
theorem dX11_scopeOf_3 : decode cX11_scopeOf 3 = .ok (.iload_n 2, 1) := by decide +kernel
theorem dX11_scopeOf_4 : decode cX11_scopeOf 4 = .ok (.iconst 2, 1) := by decide +kernel
theorem dX11_scopeOf_5 : decode cX11_scopeOf 5 = .ok (.invokevirtual 103, 3) := by decide +kernel
theorem dX11_scopeOf_8 : decode cX11_scopeOf 8 = .ok (.aload_n 0, 1) := by decide +kernel
theorem dX11_scopeOf_9 : decode cX11_scopeOf 9 = .ok (.iload_n 2, 1) := by decide +kernel
theorem dX11_scopeOf_10 : decode cX11_scopeOf 10 = .ok (.iconst 3, 1) := by decide +kernel
theorem dX11_scopeOf_11 : decode cX11_scopeOf 11 = .ok (.invokevirtual 103, 3) := by decide +kernel
theorem dX11_scopeOf_14 : decode cX11_scopeOf 14 = .ok (.invokevirtual 106, 3) := by decide +kernel
theorem dX11_scopeOf_17 : decode cX11_scopeOf 17 = .ok (.ireturn, 1) := by decide +kernel
theorem dX11_does_0 : decode cX11_does 0 = .ok (.aload_n 0, 1) := by decide +kernel
theorem dX11_does_1 : decode cX11_does 1 = .ok (.aload_n 1, 1) := by decide +kernel
theorem dX11_does_2 : decode cX11_does 2 = .ok (.iload_n 2, 1) := by decide +kernel
theorem dX11_does_3 : decode cX11_does 3 = .ok (.invokevirtual 110, 3) := by decide +kernel
theorem dX11_does_6 : decode cX11_does 6 = .ok (.istore_n 3, 1) := by decide +kernel
theorem dX11_does_7 : decode cX11_does 7 = .ok (.aload_n 0, 1) := by decide +kernel
theorem dX11_does_8 : decode cX11_does 8 = .ok (.iload_n 2, 1) := by decide +kernel
theorem dX11_does_9 : decode cX11_does 9 = .ok (.iconst 4, 1) := by decide +kernel
theorem dX11_does_10 : decode cX11_does 10 = .ok (.invokevirtual 103, 3) := by decide +kernel
theorem dX11_does_13 : decode cX11_does 13 = .ok (.istore 4, 2) := by decide +kernel
theorem dX11_does_15 : decode cX11_does 15 = .ok (.aload_n 0, 1) := by decide +kernel
theorem dX11_does_16 : decode cX11_does 16 = .ok (.iload_n 2, 1) := by decide +kernel
theorem dX11_does_17 : decode cX11_does 17 = .ok (.iconst 5, 1) := by decide +kernel
theorem dX11_does_18 : decode cX11_does 18 = .ok (.invokevirtual 103, 3) := by decide +kernel
theorem dX11_does_21 : decode cX11_does 21 = .ok (.istore 5, 2) := by decide +kernel
theorem dX11_does_23 : decode cX11_does 23 = .ok (.iconst 0, 1) := by decide +kernel
theorem dX11_does_24 : decode cX11_does 24 = .ok (.istore 6, 2) := by decide +kernel
theorem dX11_does_26 : decode cX11_does 26 = .ok (.iload 6, 2) := by decide +kernel
theorem dX11_does_28 : decode cX11_does 28 = .ok (.aload_n 0, 1) := by decide +kernel
theorem dX11_does_29 : decode cX11_does 29 = .ok (.getfield 7, 3) := by decide +kernel
theorem dX11_does_32 : decode cX11_does 32 = .ok (.sipush 238, 3) := by decide +kernel
theorem dX11_does_35 : decode cX11_does 35 = .ok (.iaload, 1) := by decide +kernel
theorem dX11_does_36 : decode cX11_does 36 = .ok (.if_icmp .ge 203, 3) := by decide +kernel
theorem dX11_does_39 : decode cX11_does 39 = .ok (.iload_n 3, 1) := by decide +kernel
theorem dX11_does_40 : decode cX11_does 40 = .ok (.iload 6, 2) := by decide +kernel
theorem dX11_does_42 : decode cX11_does 42 = .ok (.invokestatic 96, 3) := by decide +kernel
theorem dX11_does_45 : decode cX11_does 45 = .ok (.ifCond .ne 6, 3) := by decide +kernel
theorem dX11_does_48 : decode cX11_does 48 = .ok (.goto 185, 3) := by decide +kernel
theorem dX11_does_51 : decode cX11_does 51 = .ok (.aload_n 1, 1) := by decide +kernel
theorem dX11_does_52 : decode cX11_does 52 = .ok (.iconst 4, 1) := by decide +kernel
theorem dX11_does_53 : decode cX11_does 53 = .ok (.iload 6, 2) := by decide +kernel
theorem dX11_does_55 : decode cX11_does 55 = .ok (.imul, 1) := by decide +kernel
theorem dX11_does_56 : decode cX11_does 56 = .ok (.iconst 2, 1) := by decide +kernel
theorem dX11_does_57 : decode cX11_does 57 = .ok (.iadd, 1) := by decide +kernel
theorem dX11_does_58 : decode cX11_does 58 = .ok (.iaload, 1) := by decide +kernel
theorem dX11_does_59 : decode cX11_does 59 = .ok (.istore 7, 2) := by decide +kernel
theorem dX11_does_61 : decode cX11_does 61 = .ok (.aload_n 1, 1) := by decide +kernel
theorem dX11_does_62 : decode cX11_does 62 = .ok (.iconst 4, 1) := by decide +kernel
