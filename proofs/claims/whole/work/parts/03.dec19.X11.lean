theorem dX11_does_63 : decode cX11_does 63 = .ok (.iload 6, 2) := by decide +kernel
theorem dX11_does_65 : decode cX11_does 65 = .ok (.imul, 1) := by decide +kernel
theorem dX11_does_66 : decode cX11_does 66 = .ok (.iconst 3, 1) := by decide +kernel
theorem dX11_does_67 : decode cX11_does 67 = .ok (.iadd, 1) := by decide +kernel
theorem dX11_does_68 : decode cX11_does 68 = .ok (.iaload, 1) := by decide +kernel
theorem dX11_does_69 : decode cX11_does 69 = .ok (.istore 8, 2) := by decide +kernel
theorem dX11_does_71 : decode cX11_does 71 = .ok (.aload_n 0, 1) := by decide +kernel
theorem dX11_does_72 : decode cX11_does 72 = .ok (.iload_n 2, 1) := by decide +kernel
theorem dX11_does_73 : decode cX11_does 73 = .ok (.iconst 1, 1) := by decide +kernel
theorem dX11_does_74 : decode cX11_does 74 = .ok (.invokevirtual 103, 3) := by decide +kernel
theorem dX11_does_77 : decode cX11_does 77 = .ok (.tableswitch 136 0 4 #[35, 46, 64, 84, 107], 35) := by decide +kernel
theorem dX11_does_112 : decode cX11_does 112 = .ok (.aload_n 1, 1) := by decide +kernel
theorem dX11_does_113 : decode cX11_does 113 = .ok (.iconst 4, 1) := by decide +kernel
theorem dX11_does_114 : decode cX11_does 114 = .ok (.iload 6, 2) := by decide +kernel
theorem dX11_does_116 : decode cX11_does 116 = .ok (.imul, 1) := by decide +kernel
theorem dX11_does_117 : decode cX11_does 117 = .ok (.iload 4, 2) := by decide +kernel
theorem dX11_does_119 : decode cX11_does 119 = .ok (.iastore, 1) := by decide +kernel
theorem dX11_does_120 : decode cX11_does 120 = .ok (.goto 113, 3) := by decide +kernel
theorem dX11_does_123 : decode cX11_does 123 = .ok (.aload_n 1, 1) := by decide +kernel
theorem dX11_does_124 : decode cX11_does 124 = .ok (.iconst 4, 1) := by decide +kernel
theorem dX11_does_125 : decode cX11_does 125 = .ok (.iload 6, 2) := by decide +kernel
theorem dX11_does_127 : decode cX11_does 127 = .ok (.imul, 1) := by decide +kernel
theorem dX11_does_128 : decode cX11_does 128 = .ok (.iconst 1, 1) := by decide +kernel
theorem dX11_does_129 : decode cX11_does 129 = .ok (.iadd, 1) := by decide +kernel
theorem dX11_does_130 : decode cX11_does 130 = .ok (.dup2, 1) := by decide +kernel
theorem dX11_does_131 : decode cX11_does 131 = .ok (.iaload, 1) := by decide +kernel
theorem dX11_does_132 : decode cX11_does 132 = .ok (.iconst 1, 1) := by decide +kernel
theorem dX11_does_133 : decode cX11_does 133 = .ok (.iload 4, 2) := by decide +kernel
theorem dX11_does_135 : decode cX11_does 135 = .ok (.ishl, 1) := by decide +kernel
theorem dX11_does_136 : decode cX11_does 136 = .ok (.ior, 1) := by decide +kernel
theorem dX11_does_137 : decode cX11_does 137 = .ok (.iastore, 1) := by decide +kernel
theorem dX11_does_138 : decode cX11_does 138 = .ok (.goto 95, 3) := by decide +kernel
theorem dX11_does_141 : decode cX11_does 141 = .ok (.aload_n 1, 1) := by decide +kernel
theorem dX11_does_142 : decode cX11_does 142 = .ok (.iconst 4, 1) := by decide +kernel
theorem dX11_does_143 : decode cX11_does 143 = .ok (.iload 6, 2) := by decide +kernel
theorem dX11_does_145 : decode cX11_does 145 = .ok (.imul, 1) := by decide +kernel
theorem dX11_does_146 : decode cX11_does 146 = .ok (.iconst 1, 1) := by decide +kernel
theorem dX11_does_147 : decode cX11_does 147 = .ok (.iadd, 1) := by decide +kernel
theorem dX11_does_148 : decode cX11_does 148 = .ok (.dup2, 1) := by decide +kernel
theorem dX11_does_149 : decode cX11_does 149 = .ok (.iaload, 1) := by decide +kernel
theorem dX11_does_150 : decode cX11_does 150 = .ok (.iconst 1, 1) := by decide +kernel
theorem dX11_does_151 : decode cX11_does 151 = .ok (.iload 4, 2) := by decide +kernel
theorem dX11_does_153 : decode cX11_does 153 = .ok (.ishl, 1) := by decide +kernel
theorem dX11_does_154 : decode cX11_does 154 = .ok (.iconst (-1), 1) := by decide +kernel
theorem dX11_does_155 : decode cX11_does 155 = .ok (.ixor, 1) := by decide +kernel
theorem dX11_does_156 : decode cX11_does 156 = .ok (.iand, 1) := by decide +kernel
theorem dX11_does_157 : decode cX11_does 157 = .ok (.iastore, 1) := by decide +kernel
theorem dX11_does_158 : decode cX11_does 158 = .ok (.goto 75, 3) := by decide +kernel
theorem dX11_does_161 : decode cX11_does 161 = .ok (.aload_n 1, 1) := by decide +kernel
theorem dX11_does_162 : decode cX11_does 162 = .ok (.iconst 4, 1) := by decide +kernel
theorem dX11_does_163 : decode cX11_does 163 = .ok (.iload 6, 2) := by decide +kernel
theorem dX11_does_165 : decode cX11_does 165 = .ok (.imul, 1) := by decide +kernel
theorem dX11_does_166 : decode cX11_does 166 = .ok (.iconst 2, 1) := by decide +kernel
theorem dX11_does_167 : decode cX11_does 167 = .ok (.iadd, 1) := by decide +kernel
theorem dX11_does_168 : decode cX11_does 168 = .ok (.iload 4, 2) := by decide +kernel
theorem dX11_does_170 : decode cX11_does 170 = .ok (.iastore, 1) := by decide +kernel
theorem dX11_does_171 : decode cX11_does 171 = .ok (.aload_n 1, 1) := by decide +kernel
theorem dX11_does_172 : decode cX11_does 172 = .ok (.iconst 4, 1) := by decide +kernel
theorem dX11_does_173 : decode cX11_does 173 = .ok (.iload 6, 2) := by decide +kernel
theorem dX11_does_175 : decode cX11_does 175 = .ok (.imul, 1) := by decide +kernel
theorem dX11_does_176 : decode cX11_does 176 = .ok (.iconst 3, 1) := by decide +kernel
theorem dX11_does_177 : decode cX11_does 177 = .ok (.iadd, 1) := by decide +kernel
theorem dX11_does_178 : decode cX11_does 178 = .ok (.iload 5, 2) := by decide +kernel
theorem dX11_does_180 : decode cX11_does 180 = .ok (.iastore, 1) := by decide +kernel
theorem dX11_does_181 : decode cX11_does 181 = .ok (.goto 52, 3) := by decide +kernel
theorem dX11_does_184 : decode cX11_does 184 = .ok (.aload_n 1, 1) := by decide +kernel
theorem dX11_does_185 : decode cX11_does 185 = .ok (.iconst 4, 1) := by decide +kernel
theorem dX11_does_186 : decode cX11_does 186 = .ok (.iload 6, 2) := by decide +kernel
theorem dX11_does_188 : decode cX11_does 188 = .ok (.imul, 1) := by decide +kernel
theorem dX11_does_189 : decode cX11_does 189 = .ok (.iconst 2, 1) := by decide +kernel
theorem dX11_does_190 : decode cX11_does 190 = .ok (.iadd, 1) := by decide +kernel
theorem dX11_does_191 : decode cX11_does 191 = .ok (.iload 7, 2) := by decide +kernel
theorem dX11_does_193 : decode cX11_does 193 = .ok (.iload 4, 2) := by decide +kernel
theorem dX11_does_195 : decode cX11_does 195 = .ok (.iadd, 1) := by decide +kernel
theorem dX11_does_196 : decode cX11_does 196 = .ok (.iastore, 1) := by decide +kernel
theorem dX11_does_197 : decode cX11_does 197 = .ok (.aload_n 1, 1) := by decide +kernel
theorem dX11_does_198 : decode cX11_does 198 = .ok (.iconst 4, 1) := by decide +kernel
theorem dX11_does_199 : decode cX11_does 199 = .ok (.iload 6, 2) := by decide +kernel
theorem dX11_does_201 : decode cX11_does 201 = .ok (.imul, 1) := by decide +kernel
theorem dX11_does_202 : decode cX11_does 202 = .ok (.iconst 3, 1) := by decide +kernel
theorem dX11_does_203 : decode cX11_does 203 = .ok (.iadd, 1) := by decide +kernel
theorem dX11_does_204 : decode cX11_does 204 = .ok (.iload 8, 2) := by decide +kernel
theorem dX11_does_206 : decode cX11_does 206 = .ok (.iload 5, 2) := by decide +kernel
theorem dX11_does_208 : decode cX11_does 208 = .ok (.iadd, 1) := by decide +kernel
theorem dX11_does_209 : decode cX11_does 209 = .ok (.iastore, 1) := by decide +kernel
theorem dX11_does_210 : decode cX11_does 210 = .ok (.goto 23, 3) := by decide +kernel
theorem dX11_does_213 : decode cX11_does 213 = .ok (.aload_n 1, 1) := by decide +kernel
theorem dX11_does_214 : decode cX11_does 214 = .ok (.iconst 4, 1) := by decide +kernel
theorem dX11_does_215 : decode cX11_does 215 = .ok (.iload 6, 2) := by decide +kernel
theorem dX11_does_217 : decode cX11_does 217 = .ok (.imul, 1) := by decide +kernel
theorem dX11_does_218 : decode cX11_does 218 = .ok (.iconst 2, 1) := by decide +kernel
theorem dX11_does_219 : decode cX11_does 219 = .ok (.iadd, 1) := by decide +kernel
theorem dX11_does_220 : decode cX11_does 220 = .ok (.iload 8, 2) := by decide +kernel
theorem dX11_does_222 : decode cX11_does 222 = .ok (.iastore, 1) := by decide +kernel
theorem dX11_does_223 : decode cX11_does 223 = .ok (.aload_n 1, 1) := by decide +kernel
theorem dX11_does_224 : decode cX11_does 224 = .ok (.iconst 4, 1) := by decide +kernel
theorem dX11_does_225 : decode cX11_does 225 = .ok (.iload 6, 2) := by decide +kernel
theorem dX11_does_227 : decode cX11_does 227 = .ok (.imul, 1) := by decide +kernel
theorem dX11_does_228 : decode cX11_does 228 = .ok (.iconst 3, 1) := by decide +kernel
theorem dX11_does_229 : decode cX11_does 229 = .ok (.iadd, 1) := by decide +kernel
theorem dX11_does_230 : decode cX11_does 230 = .ok (.iload 7, 2) := by decide +kernel
theorem dX11_does_232 : decode cX11_does 232 = .ok (.iastore, 1) := by decide +kernel
theorem dX11_does_233 : decode cX11_does 233 = .ok (.iinc 6 1, 3) := by decide +kernel
theorem dX11_does_236 : decode cX11_does 236 = .ok (.goto (-210), 3) := by decide +kernel
theorem dX11_does_239 : decode cX11_does 239 = .ok (.return_, 1) := by decide +kernel
theorem dX11_doesSomething_0 : decode cX11_doesSomething 0 = .ok (.aload_n 0, 1) := by decide +kernel
theorem dX11_doesSomething_1 : decode cX11_doesSomething 1 = .ok (.iload_n 1, 1) := by decide +kernel
theorem dX11_doesSomething_2 : decode cX11_doesSomething 2 = .ok (.iconst 0, 1) := by decide +kernel
theorem dX11_doesSomething_3 : decode cX11_doesSomething 3 = .ok (.invokevirtual 103, 3) := by decide +kernel
theorem dX11_doesSomething_6 : decode cX11_doesSomething 6 = .ok (.iconst (-1), 1) := by decide +kernel
theorem dX11_doesSomething_7 : decode cX11_doesSomething 7 = .ok (.if_icmp .eq 16, 3) := by decide +kernel
theorem dX11_doesSomething_10 : decode cX11_doesSomething 10 = .ok (.aload_n 0, 1) := by decide +kernel
theorem dX11_doesSomething_11 : decode cX11_doesSomething 11 = .ok (.aload_n 0, 1) := by decide +kernel
theorem dX11_doesSomething_12 : decode cX11_doesSomething 12 = .ok (.iload_n 1, 1) := by decide +kernel
theorem dX11_doesSomething_13 : decode cX11_doesSomething 13 = .ok (.iconst 0, 1) := by decide +kernel
theorem dX11_doesSomething_14 : decode cX11_doesSomething 14 = .ok (.invokevirtual 103, 3) := by decide +kernel
theorem dX11_doesSomething_17 : decode cX11_doesSomething 17 = .ok (.invokevirtual 100, 3) := by decide +kernel
theorem dX11_doesSomething_20 : decode cX11_doesSomething 20 = .ok (.ifCond .eq 7, 3) := by decide +kernel
theorem dX11_doesSomething_23 : decode cX11_doesSomething 23 = .ok (.iconst 1, 1) := by decide +kernel
theorem dX11_doesSomething_24 : decode cX11_doesSomething 24 = .ok (.goto 4, 3) := by decide +kernel
theorem dX11_doesSomething_27 : decode cX11_doesSomething 27 = .ok (.iconst 0, 1) := by decide +kernel
theorem dX11_doesSomething_28 : decode cX11_doesSomething 28 = .ok (.ireturn, 1) := by decide +kernel
theorem dX11_layer_0 : decode cX11_layer 0 = .ok (.iload_n 0, 1) := by decide +kernel
theorem dX11_layer_1 : decode cX11_layer 1 = .ok (.iconst 2, 1) := by decide +kernel
theorem dX11_layer_2 : decode cX11_layer 2 = .ok (.if_icmp .ge 7, 3) := by decide +kernel
theorem dX11_layer_5 : decode cX11_layer 5 = .ok (.iload_n 0, 1) := by decide +kernel
theorem dX11_layer_6 : decode cX11_layer 6 = .ok (.goto 6, 3) := by decide +kernel
theorem dX11_layer_9 : decode cX11_layer 9 = .ok (.iload_n 0, 1) := by decide +kernel
theorem dX11_layer_10 : decode cX11_layer 10 = .ok (.iconst 1, 1) := by decide +kernel
theorem dX11_layer_11 : decode cX11_layer 11 = .ok (.isub, 1) := by decide +kernel
theorem dX11_layer_12 : decode cX11_layer 12 = .ok (.ireturn, 1) := by decide +kernel
theorem dX11_doesDepend_0 : decode cX11_doesDepend 0 = .ok (.iconst 0, 1) := by decide +kernel
theorem dX11_doesDepend_1 : decode cX11_doesDepend 1 = .ok (.istore_n 3, 1) := by decide +kernel
theorem dX11_doesDepend_2 : decode cX11_doesDepend 2 = .ok (.iload_n 3, 1) := by decide +kernel
theorem dX11_doesDepend_3 : decode cX11_doesDepend 3 = .ok (.bipush 32, 2) := by decide +kernel
theorem dX11_doesDepend_5 : decode cX11_doesDepend 5 = .ok (.if_icmp .ge 21, 3) := by decide +kernel
theorem dX11_doesDepend_8 : decode cX11_doesDepend 8 = .ok (.aload_n 0, 1) := by decide +kernel
theorem dX11_doesDepend_9 : decode cX11_doesDepend 9 = .ok (.getfield 22, 3) := by decide +kernel
theorem dX11_doesDepend_12 : decode cX11_doesDepend 12 = .ok (.iload_n 3, 1) := by decide +kernel
theorem dX11_doesDepend_13 : decode cX11_doesDepend 13 = .ok (.aload_n 0, 1) := by decide +kernel
theorem dX11_doesDepend_14 : decode cX11_doesDepend 14 = .ok (.getfield 19, 3) := by decide +kernel
theorem dX11_doesDepend_17 : decode cX11_doesDepend 17 = .ok (.iload_n 3, 1) := by decide +kernel
theorem dX11_doesDepend_18 : decode cX11_doesDepend 18 = .ok (.iaload, 1) := by decide +kernel
theorem dX11_doesDepend_19 : decode cX11_doesDepend 19 = .ok (.iastore, 1) := by decide +kernel
theorem dX11_doesDepend_20 : decode cX11_doesDepend 20 = .ok (.iinc 3 1, 3) := by decide +kernel
theorem dX11_doesDepend_23 : decode cX11_doesDepend 23 = .ok (.goto (-21), 3) := by decide +kernel
theorem dX11_doesDepend_26 : decode cX11_doesDepend 26 = .ok (.aload_n 0, 1) := by decide +kernel
theorem dX11_doesDepend_27 : decode cX11_doesDepend 27 = .ok (.aload_n 0, 1) := by decide +kernel
theorem dX11_doesDepend_28 : decode cX11_doesDepend 28 = .ok (.getfield 22, 3) := by decide +kernel
theorem dX11_doesDepend_31 : decode cX11_doesDepend 31 = .ok (.iload_n 2, 1) := by decide +kernel
theorem dX11_doesDepend_32 : decode cX11_doesDepend 32 = .ok (.invokevirtual 114, 3) := by decide +kernel
theorem dX11_doesDepend_35 : decode cX11_doesDepend 35 = .ok (.aload_n 0, 1) := by decide +kernel
theorem dX11_doesDepend_36 : decode cX11_doesDepend 36 = .ok (.aload_n 0, 1) := by decide +kernel
theorem dX11_doesDepend_37 : decode cX11_doesDepend 37 = .ok (.getfield 19, 3) := by decide +kernel
theorem dX11_doesDepend_40 : decode cX11_doesDepend 40 = .ok (.iload_n 1, 1) := by decide +kernel
theorem dX11_doesDepend_41 : decode cX11_doesDepend 41 = .ok (.invokevirtual 110, 3) := by decide +kernel
theorem dX11_doesDepend_44 : decode cX11_doesDepend 44 = .ok (.aload_n 0, 1) := by decide +kernel
theorem dX11_doesDepend_45 : decode cX11_doesDepend 45 = .ok (.aload_n 0, 1) := by decide +kernel
theorem dX11_doesDepend_46 : decode cX11_doesDepend 46 = .ok (.getfield 22, 3) := by decide +kernel
theorem dX11_doesDepend_49 : decode cX11_doesDepend 49 = .ok (.iload_n 1, 1) := by decide +kernel
theorem dX11_doesDepend_50 : decode cX11_doesDepend 50 = .ok (.invokevirtual 110, 3) := by decide +kernel
theorem dX11_doesDepend_53 : decode cX11_doesDepend 53 = .ok (.if_icmp .eq 7, 3) := by decide +kernel
theorem dX11_doesDepend_56 : decode cX11_doesDepend 56 = .ok (.iconst 1, 1) := by decide +kernel
theorem dX11_doesDepend_57 : decode cX11_doesDepend 57 = .ok (.goto 4, 3) := by decide +kernel
theorem dX11_doesDepend_60 : decode cX11_doesDepend 60 = .ok (.iconst 0, 1) := by decide +kernel
theorem dX11_doesDepend_61 : decode cX11_doesDepend 61 = .ok (.ireturn, 1) := by decide +kernel
theorem dX11_nextOf_0 : decode cX11_nextOf 0 = .ok (.iconst 0, 1) := by decide +kernel
theorem dX11_nextOf_1 : decode cX11_nextOf 1 = .ok (.istore_n 2, 1) := by decide +kernel
theorem dX11_nextOf_2 : decode cX11_nextOf 2 = .ok (.iload_n 2, 1) := by decide +kernel
theorem dX11_nextOf_3 : decode cX11_nextOf 3 = .ok (.bipush 10, 2) := by decide +kernel
theorem dX11_nextOf_5 : decode cX11_nextOf 5 = .ok (.if_icmp .ge 80, 3) := by decide +kernel
theorem dX11_nextOf_8 : decode cX11_nextOf 8 = .ok (.iload_n 1, 1) := by decide +kernel
theorem dX11_nextOf_9 : decode cX11_nextOf 9 = .ok (.iload_n 2, 1) := by decide +kernel
theorem dX11_nextOf_10 : decode cX11_nextOf 10 = .ok (.invokestatic 96, 3) := by decide +kernel
theorem dX11_nextOf_13 : decode cX11_nextOf 13 = .ok (.ifCond .ne 7, 3) := by decide +kernel
theorem dX11_nextOf_16 : decode cX11_nextOf 16 = .ok (.iconst 1, 1) := by decide +kernel
theorem dX11_nextOf_17 : decode cX11_nextOf 17 = .ok (.goto 4, 3) := by decide +kernel
theorem dX11_nextOf_20 : decode cX11_nextOf 20 = .ok (.iconst 0, 1) := by decide +kernel
theorem dX11_nextOf_21 : decode cX11_nextOf 21 = .ok (.istore_n 3, 1) := by decide +kernel
theorem dX11_nextOf_22 : decode cX11_nextOf 22 = .ok (.iconst 0, 1) := by decide +kernel
theorem dX11_nextOf_23 : decode cX11_nextOf 23 = .ok (.istore 4, 2) := by decide +kernel
theorem dX11_nextOf_25 : decode cX11_nextOf 25 = .ok (.iload 4, 2) := by decide +kernel
theorem dX11_nextOf_27 : decode cX11_nextOf 27 = .ok (.bipush 10, 2) := by decide +kernel
theorem dX11_nextOf_29 : decode cX11_nextOf 29 = .ok (.if_icmp .ge 44, 3) := by decide +kernel
theorem dX11_nextOf_32 : decode cX11_nextOf 32 = .ok (.iload_n 3, 1) := by decide +kernel
theorem dX11_nextOf_33 : decode cX11_nextOf 33 = .ok (.ifCond .ne 40, 3) := by decide +kernel
theorem dX11_nextOf_36 : decode cX11_nextOf 36 = .ok (.iload 4, 2) := by decide +kernel
theorem dX11_nextOf_38 : decode cX11_nextOf 38 = .ok (.iload_n 2, 1) := by decide +kernel
theorem dX11_nextOf_39 : decode cX11_nextOf 39 = .ok (.if_icmp .eq 26, 3) := by decide +kernel
theorem dX11_nextOf_42 : decode cX11_nextOf 42 = .ok (.iload_n 1, 1) := by decide +kernel
theorem dX11_nextOf_43 : decode cX11_nextOf 43 = .ok (.iload 4, 2) := by decide +kernel
theorem dX11_nextOf_45 : decode cX11_nextOf 45 = .ok (.invokestatic 96, 3) := by decide +kernel
theorem dX11_nextOf_48 : decode cX11_nextOf 48 = .ok (.ifCond .eq 17, 3) := by decide +kernel
theorem dX11_nextOf_51 : decode cX11_nextOf 51 = .ok (.aload_n 0, 1) := by decide +kernel
theorem dX11_nextOf_52 : decode cX11_nextOf 52 = .ok (.iload_n 2, 1) := by decide +kernel
theorem dX11_nextOf_53 : decode cX11_nextOf 53 = .ok (.iload 4, 2) := by decide +kernel
theorem dX11_nextOf_55 : decode cX11_nextOf 55 = .ok (.invokevirtual 118, 3) := by decide +kernel
theorem dX11_nextOf_58 : decode cX11_nextOf 58 = .ok (.ifCond .eq 7, 3) := by decide +kernel
theorem dX11_nextOf_61 : decode cX11_nextOf 61 = .ok (.iconst 1, 1) := by decide +kernel
theorem dX11_nextOf_62 : decode cX11_nextOf 62 = .ok (.goto 4, 3) := by decide +kernel
theorem dX11_nextOf_65 : decode cX11_nextOf 65 = .ok (.iconst 0, 1) := by decide +kernel
theorem dX11_nextOf_66 : decode cX11_nextOf 66 = .ok (.istore_n 3, 1) := by decide +kernel
theorem dX11_nextOf_67 : decode cX11_nextOf 67 = .ok (.iinc 4 1, 3) := by decide +kernel
theorem dX11_nextOf_70 : decode cX11_nextOf 70 = .ok (.goto (-45), 3) := by decide +kernel
theorem dX11_nextOf_73 : decode cX11_nextOf 73 = .ok (.iload_n 3, 1) := by decide +kernel
theorem dX11_nextOf_74 : decode cX11_nextOf 74 = .ok (.ifCond .ne 5, 3) := by decide +kernel
theorem dX11_nextOf_77 : decode cX11_nextOf 77 = .ok (.iload_n 2, 1) := by decide +kernel
theorem dX11_nextOf_78 : decode cX11_nextOf 78 = .ok (.ireturn, 1) := by decide +kernel
theorem dX11_nextOf_79 : decode cX11_nextOf 79 = .ok (.iinc 2 1, 3) := by decide +kernel
theorem dX11_nextOf_82 : decode cX11_nextOf 82 = .ok (.goto (-80), 3) := by decide +kernel
theorem dX11_nextOf_85 : decode cX11_nextOf 85 = .ok (.iconst 0, 1) := by decide +kernel
theorem dX11_nextOf_86 : decode cX11_nextOf 86 = .ok (.istore_n 2, 1) := by decide +kernel
theorem dX11_nextOf_87 : decode cX11_nextOf 87 = .ok (.iload_n 1, 1) := by decide +kernel
theorem dX11_nextOf_88 : decode cX11_nextOf 88 = .ok (.iload_n 2, 1) := by decide +kernel
theorem dX11_nextOf_89 : decode cX11_nextOf 89 = .ok (.invokestatic 96, 3) := by decide +kernel
theorem dX11_nextOf_92 : decode cX11_nextOf 92 = .ok (.ifCond .ne 9, 3) := by decide +kernel
theorem dX11_nextOf_95 : decode cX11_nextOf 95 = .ok (.iinc 2 1, 3) := by decide +kernel
theorem dX11_nextOf_98 : decode cX11_nextOf 98 = .ok (.goto (-11), 3) := by decide +kernel
theorem dX11_nextOf_101 : decode cX11_nextOf 101 = .ok (.iload_n 2, 1) := by decide +kernel
theorem dX11_nextOf_102 : decode cX11_nextOf 102 = .ok (.ireturn, 1) := by decide +kernel
theorem dX11_makes_0 : decode cX11_makes 0 = .ok (.iconst 0, 1) := by decide +kernel
theorem dX11_makes_1 : decode cX11_makes 1 = .ok (.istore_n 2, 1) := by decide +kernel
theorem dX11_makes_2 : decode cX11_makes 2 = .ok (.iload_n 2, 1) := by decide +kernel
theorem dX11_makes_3 : decode cX11_makes 3 = .ok (.aload_n 0, 1) := by decide +kernel
theorem dX11_makes_4 : decode cX11_makes 4 = .ok (.getfield 7, 3) := by decide +kernel
theorem dX11_makes_7 : decode cX11_makes 7 = .ok (.sipush 238, 3) := by decide +kernel
theorem dX11_makes_10 : decode cX11_makes 10 = .ok (.iaload, 1) := by decide +kernel
theorem dX11_makes_11 : decode cX11_makes 11 = .ok (.if_icmp .ge 66, 3) := by decide +kernel
theorem dX11_makes_14 : decode cX11_makes 14 = .ok (.aload_n 0, 1) := by decide +kernel
theorem dX11_makes_15 : decode cX11_makes 15 = .ok (.getfield 19, 3) := by decide +kernel
theorem dX11_makes_18 : decode cX11_makes 18 = .ok (.iconst 4, 1) := by decide +kernel
theorem dX11_makes_19 : decode cX11_makes 19 = .ok (.iload_n 2, 1) := by decide +kernel
theorem dX11_makes_20 : decode cX11_makes 20 = .ok (.imul, 1) := by decide +kernel
theorem dX11_makes_21 : decode cX11_makes 21 = .ok (.aload_n 0, 1) := by decide +kernel
theorem dX11_makes_22 : decode cX11_makes 22 = .ok (.iload_n 2, 1) := by decide +kernel
theorem dX11_makes_23 : decode cX11_makes 23 = .ok (.iconst 1, 1) := by decide +kernel
theorem dX11_makes_24 : decode cX11_makes 24 = .ok (.invokevirtual 92, 3) := by decide +kernel
theorem dX11_makes_27 : decode cX11_makes 27 = .ok (.iastore, 1) := by decide +kernel
theorem dX11_makes_28 : decode cX11_makes 28 = .ok (.aload_n 0, 1) := by decide +kernel
theorem dX11_makes_29 : decode cX11_makes 29 = .ok (.getfield 19, 3) := by decide +kernel
theorem dX11_makes_32 : decode cX11_makes 32 = .ok (.iconst 4, 1) := by decide +kernel
theorem dX11_makes_33 : decode cX11_makes 33 = .ok (.iload_n 2, 1) := by decide +kernel
theorem dX11_makes_34 : decode cX11_makes 34 = .ok (.imul, 1) := by decide +kernel
theorem dX11_makes_35 : decode cX11_makes 35 = .ok (.iconst 1, 1) := by decide +kernel
theorem dX11_makes_36 : decode cX11_makes 36 = .ok (.iadd, 1) := by decide +kernel
theorem dX11_makes_37 : decode cX11_makes 37 = .ok (.iconst 0, 1) := by decide +kernel
theorem dX11_makes_38 : decode cX11_makes 38 = .ok (.iastore, 1) := by decide +kernel
theorem dX11_makes_39 : decode cX11_makes 39 = .ok (.aload_n 0, 1) := by decide +kernel
theorem dX11_makes_40 : decode cX11_makes 40 = .ok (.getfield 19, 3) := by decide +kernel
theorem dX11_makes_43 : decode cX11_makes 43 = .ok (.iconst 4, 1) := by decide +kernel
theorem dX11_makes_44 : decode cX11_makes 44 = .ok (.iload_n 2, 1) := by decide +kernel
theorem dX11_makes_45 : decode cX11_makes 45 = .ok (.imul, 1) := by decide +kernel
theorem dX11_makes_46 : decode cX11_makes 46 = .ok (.iconst 2, 1) := by decide +kernel
theorem dX11_makes_47 : decode cX11_makes 47 = .ok (.iadd, 1) := by decide +kernel
theorem dX11_makes_48 : decode cX11_makes 48 = .ok (.aload_n 0, 1) := by decide +kernel
theorem dX11_makes_49 : decode cX11_makes 49 = .ok (.iload_n 2, 1) := by decide +kernel
theorem dX11_makes_50 : decode cX11_makes 50 = .ok (.iconst 2, 1) := by decide +kernel
theorem dX11_makes_51 : decode cX11_makes 51 = .ok (.invokevirtual 92, 3) := by decide +kernel
theorem dX11_makes_54 : decode cX11_makes 54 = .ok (.iastore, 1) := by decide +kernel
theorem dX11_makes_55 : decode cX11_makes 55 = .ok (.aload_n 0, 1) := by decide +kernel
theorem dX11_makes_56 : decode cX11_makes 56 = .ok (.getfield 19, 3) := by decide +kernel
theorem dX11_makes_59 : decode cX11_makes 59 = .ok (.iconst 4, 1) := by decide +kernel
theorem dX11_makes_60 : decode cX11_makes 60 = .ok (.iload_n 2, 1) := by decide +kernel
theorem dX11_makes_61 : decode cX11_makes 61 = .ok (.imul, 1) := by decide +kernel
theorem dX11_makes_62 : decode cX11_makes 62 = .ok (.iconst 3, 1) := by decide +kernel
theorem dX11_makes_63 : decode cX11_makes 63 = .ok (.iadd, 1) := by decide +kernel
theorem dX11_makes_64 : decode cX11_makes 64 = .ok (.aload_n 0, 1) := by decide +kernel
theorem dX11_makes_65 : decode cX11_makes 65 = .ok (.iload_n 2, 1) := by decide +kernel
theorem dX11_makes_66 : decode cX11_makes 66 = .ok (.iconst 3, 1) := by decide +kernel
theorem dX11_makes_67 : decode cX11_makes 67 = .ok (.invokevirtual 92, 3) := by decide +kernel
theorem dX11_makes_70 : decode cX11_makes 70 = .ok (.iastore, 1) := by decide +kernel
theorem dX11_makes_71 : decode cX11_makes 71 = .ok (.iinc 2 1, 3) := by decide +kernel
theorem dX11_makes_74 : decode cX11_makes 74 = .ok (.goto (-72), 3) := by decide +kernel
theorem dX11_makes_77 : decode cX11_makes 77 = .ok (.aload_n 0, 1) := by decide +kernel
theorem dX11_makes_78 : decode cX11_makes 78 = .ok (.iconst 0, 1) := by decide +kernel
theorem dX11_makes_79 : decode cX11_makes 79 = .ok (.putfield 121, 3) := by decide +kernel
theorem dX11_makes_82 : decode cX11_makes 82 = .ok (.iconst 0, 1) := by decide +kernel
theorem dX11_makes_83 : decode cX11_makes 83 = .ok (.istore_n 2, 1) := by decide +kernel
theorem dX11_makes_84 : decode cX11_makes 84 = .ok (.iload_n 2, 1) := by decide +kernel
theorem dX11_makes_85 : decode cX11_makes 85 = .ok (.iload_n 1, 1) := by decide +kernel
theorem dX11_makes_86 : decode cX11_makes 86 = .ok (.if_icmp .ge 121, 3) := by decide +kernel
theorem dX11_makes_89 : decode cX11_makes 89 = .ok (.iconst 0, 1) := by decide +kernel
theorem dX11_makes_90 : decode cX11_makes 90 = .ok (.istore_n 3, 1) := by decide +kernel
theorem dX11_makes_91 : decode cX11_makes 91 = .ok (.iconst 0, 1) := by decide +kernel
theorem dX11_makes_92 : decode cX11_makes 92 = .ok (.istore 4, 2) := by decide +kernel
theorem dX11_makes_94 : decode cX11_makes 94 = .ok (.iload 4, 2) := by decide +kernel
theorem dX11_makes_96 : decode cX11_makes 96 = .ok (.aload_n 0, 1) := by decide +kernel
theorem dX11_makes_97 : decode cX11_makes 97 = .ok (.getfield 7, 3) := by decide +kernel
theorem dX11_makes_100 : decode cX11_makes 100 = .ok (.sipush 239, 3) := by decide +kernel
theorem dX11_makes_103 : decode cX11_makes 103 = .ok (.iaload, 1) := by decide +kernel
theorem dX11_makes_104 : decode cX11_makes 104 = .ok (.if_icmp .ge 43, 3) := by decide +kernel
theorem dX11_makes_107 : decode cX11_makes 107 = .ok (.iload_n 3, 1) := by decide +kernel
theorem dX11_makes_108 : decode cX11_makes 108 = .ok (.aload_n 0, 1) := by decide +kernel
theorem dX11_makes_109 : decode cX11_makes 109 = .ok (.iload 4, 2) := by decide +kernel
theorem dX11_makes_111 : decode cX11_makes 111 = .ok (.iconst 1, 1) := by decide +kernel
theorem dX11_makes_112 : decode cX11_makes 112 = .ok (.invokevirtual 103, 3) := by decide +kernel
theorem dX11_makes_115 : decode cX11_makes 115 = .ok (.invokestatic 125, 3) := by decide +kernel
theorem dX11_makes_118 : decode cX11_makes 118 = .ok (.iload_n 2, 1) := by decide +kernel
theorem dX11_makes_119 : decode cX11_makes 119 = .ok (.if_icmp .ne 19, 3) := by decide +kernel
theorem dX11_makes_122 : decode cX11_makes 122 = .ok (.aload_n 0, 1) := by decide +kernel
theorem dX11_makes_123 : decode cX11_makes 123 = .ok (.iload 4, 2) := by decide +kernel
theorem dX11_makes_125 : decode cX11_makes 125 = .ok (.invokevirtual 129, 3) := by decide +kernel
theorem dX11_makes_128 : decode cX11_makes 128 = .ok (.ifCond .eq 10, 3) := by decide +kernel
theorem dX11_makes_131 : decode cX11_makes 131 = .ok (.iconst 1, 1) := by decide +kernel
theorem dX11_makes_132 : decode cX11_makes 132 = .ok (.iload 4, 2) := by decide +kernel
theorem dX11_makes_134 : decode cX11_makes 134 = .ok (.ishl, 1) := by decide +kernel
theorem dX11_makes_135 : decode cX11_makes 135 = .ok (.goto 4, 3) := by decide +kernel
theorem dX11_makes_138 : decode cX11_makes 138 = .ok (.iconst 0, 1) := by decide +kernel
theorem dX11_makes_139 : decode cX11_makes 139 = .ok (.ior, 1) := by decide +kernel
theorem dX11_makes_140 : decode cX11_makes 140 = .ok (.istore_n 3, 1) := by decide +kernel
theorem dX11_makes_141 : decode cX11_makes 141 = .ok (.iinc 4 1, 3) := by decide +kernel
theorem dX11_makes_144 : decode cX11_makes 144 = .ok (.goto (-50), 3) := by decide +kernel
theorem dX11_makes_147 : decode cX11_makes 147 = .ok (.iload_n 3, 1) := by decide +kernel
theorem dX11_makes_148 : decode cX11_makes 148 = .ok (.ifCond .eq 53, 3) := by decide +kernel
theorem dX11_makes_151 : decode cX11_makes 151 = .ok (.aload_n 0, 1) := by decide +kernel
theorem dX11_makes_152 : decode cX11_makes 152 = .ok (.iload_n 3, 1) := by decide +kernel
theorem dX11_makes_153 : decode cX11_makes 153 = .ok (.invokevirtual 132, 3) := by decide +kernel
theorem dX11_makes_156 : decode cX11_makes 156 = .ok (.istore 4, 2) := by decide +kernel
theorem dX11_makes_158 : decode cX11_makes 158 = .ok (.aload_n 0, 1) := by decide +kernel
theorem dX11_makes_159 : decode cX11_makes 159 = .ok (.aload_n 0, 1) := by decide +kernel
theorem dX11_makes_160 : decode cX11_makes 160 = .ok (.getfield 19, 3) := by decide +kernel
theorem dX11_makes_163 : decode cX11_makes 163 = .ok (.iload 4, 2) := by decide +kernel
theorem dX11_makes_165 : decode cX11_makes 165 = .ok (.invokevirtual 114, 3) := by decide +kernel
theorem dX11_makes_168 : decode cX11_makes 168 = .ok (.iload_n 3, 1) := by decide +kernel
theorem dX11_makes_169 : decode cX11_makes 169 = .ok (.iconst 1, 1) := by decide +kernel
theorem dX11_makes_170 : decode cX11_makes 170 = .ok (.iload 4, 2) := by decide +kernel
theorem dX11_makes_172 : decode cX11_makes 172 = .ok (.ishl, 1) := by decide +kernel
theorem dX11_makes_173 : decode cX11_makes 173 = .ok (.iconst (-1), 1) := by decide +kernel
theorem dX11_makes_174 : decode cX11_makes 174 = .ok (.ixor, 1) := by decide +kernel
theorem dX11_makes_175 : decode cX11_makes 175 = .ok (.iand, 1) := by decide +kernel
theorem dX11_makes_176 : decode cX11_makes 176 = .ok (.istore_n 3, 1) := by decide +kernel
theorem dX11_makes_177 : decode cX11_makes 177 = .ok (.aload_n 0, 1) := by decide +kernel
theorem dX11_makes_178 : decode cX11_makes 178 = .ok (.getfield 25, 3) := by decide +kernel
theorem dX11_makes_181 : decode cX11_makes 181 = .ok (.aload_n 0, 1) := by decide +kernel
theorem dX11_makes_182 : decode cX11_makes 182 = .ok (.getfield 121, 3) := by decide +kernel
theorem dX11_makes_185 : decode cX11_makes 185 = .ok (.iload 4, 2) := by decide +kernel
theorem dX11_makes_187 : decode cX11_makes 187 = .ok (.iastore, 1) := by decide +kernel
theorem dX11_makes_188 : decode cX11_makes 188 = .ok (.aload_n 0, 1) := by decide +kernel
theorem dX11_makes_189 : decode cX11_makes 189 = .ok (.dup, 1) := by decide +kernel
theorem dX11_makes_190 : decode cX11_makes 190 = .ok (.getfield 121, 3) := by decide +kernel
theorem dX11_makes_193 : decode cX11_makes 193 = .ok (.iconst 1, 1) := by decide +kernel
theorem dX11_makes_194 : decode cX11_makes 194 = .ok (.iadd, 1) := by decide +kernel
theorem dX11_makes_195 : decode cX11_makes 195 = .ok (.putfield 121, 3) := by decide +kernel
theorem dX11_makes_198 : decode cX11_makes 198 = .ok (.goto (-51), 3) := by decide +kernel
theorem dX11_makes_201 : decode cX11_makes 201 = .ok (.iinc 2 1, 3) := by decide +kernel
theorem dX11_makes_204 : decode cX11_makes 204 = .ok (.goto (-120), 3) := by decide +kernel
theorem dX11_makes_207 : decode cX11_makes 207 = .ok (.return_, 1) := by decide +kernel
theorem dX11_setsOff_0 : decode cX11_setsOff 0 = .ok (.iconst 0, 1) := by decide +kernel
theorem dX11_setsOff_1 : decode cX11_setsOff 1 = .ok (.istore_n 3, 1) := by decide +kernel
theorem dX11_setsOff_2 : decode cX11_setsOff 2 = .ok (.iload_n 3, 1) := by decide +kernel
theorem dX11_setsOff_3 : decode cX11_setsOff 3 = .ok (.iconst 2, 1) := by decide +kernel
theorem dX11_setsOff_4 : decode cX11_setsOff 4 = .ok (.if_icmp .ge 213, 3) := by decide +kernel
theorem dX11_setsOff_7 : decode cX11_setsOff 7 = .ok (.aload_n 0, 1) := by decide +kernel
theorem dX11_setsOff_8 : decode cX11_setsOff 8 = .ok (.getfield 135, 3) := by decide +kernel
theorem dX11_setsOff_11 : decode cX11_setsOff 11 = .ok (.ifCond .eq 206, 3) := by decide +kernel
theorem dX11_setsOff_14 : decode cX11_setsOff 14 = .ok (.iload_n 3, 1) := by decide +kernel
theorem dX11_setsOff_15 : decode cX11_setsOff 15 = .ok (.ifCond .ne 14, 3) := by decide +kernel
theorem dX11_setsOff_18 : decode cX11_setsOff 18 = .ok (.aload_n 0, 1) := by decide +kernel
theorem dX11_setsOff_19 : decode cX11_setsOff 19 = .ok (.getfield 7, 3) := by decide +kernel
theorem dX11_setsOff_22 : decode cX11_setsOff 22 = .ok (.sipush 244, 3) := by decide +kernel
theorem dX11_setsOff_25 : decode cX11_setsOff 25 = .ok (.iaload, 1) := by decide +kernel
theorem dX11_setsOff_26 : decode cX11_setsOff 26 = .ok (.goto 13, 3) := by decide +kernel
theorem dX11_setsOff_29 : decode cX11_setsOff 29 = .ok (.iconst 1, 1) := by decide +kernel
theorem dX11_setsOff_30 : decode cX11_setsOff 30 = .ok (.aload_n 0, 1) := by decide +kernel
theorem dX11_setsOff_31 : decode cX11_setsOff 31 = .ok (.getfield 7, 3) := by decide +kernel
theorem dX11_setsOff_34 : decode cX11_setsOff 34 = .ok (.sipush 244, 3) := by decide +kernel
theorem dX11_setsOff_37 : decode cX11_setsOff 37 = .ok (.iaload, 1) := by decide +kernel
theorem dX11_setsOff_38 : decode cX11_setsOff 38 = .ok (.isub, 1) := by decide +kernel
theorem dX11_setsOff_39 : decode cX11_setsOff 39 = .ok (.istore 4, 2) := by decide +kernel
theorem dX11_setsOff_41 : decode cX11_setsOff 41 = .ok (.iconst 0, 1) := by decide +kernel
theorem dX11_setsOff_42 : decode cX11_setsOff 42 = .ok (.istore 5, 2) := by decide +kernel
theorem dX11_setsOff_44 : decode cX11_setsOff 44 = .ok (.iload 5, 2) := by decide +kernel
theorem dX11_setsOff_46 : decode cX11_setsOff 46 = .ok (.aload_n 0, 1) := by decide +kernel
theorem dX11_setsOff_47 : decode cX11_setsOff 47 = .ok (.getfield 7, 3) := by decide +kernel
theorem dX11_setsOff_50 : decode cX11_setsOff 50 = .ok (.sipush 241, 3) := by decide +kernel
theorem dX11_setsOff_53 : decode cX11_setsOff 53 = .ok (.iaload, 1) := by decide +kernel
theorem dX11_setsOff_54 : decode cX11_setsOff 54 = .ok (.if_icmp .ge 157, 3) := by decide +kernel
theorem dX11_setsOff_57 : decode cX11_setsOff 57 = .ok (.aload_n 0, 1) := by decide +kernel
theorem dX11_setsOff_58 : decode cX11_setsOff 58 = .ok (.iload 5, 2) := by decide +kernel
theorem dX11_setsOff_60 : decode cX11_setsOff 60 = .ok (.iconst 0, 1) := by decide +kernel
theorem dX11_setsOff_61 : decode cX11_setsOff 61 = .ok (.invokevirtual 139, 3) := by decide +kernel
theorem dX11_setsOff_64 : decode cX11_setsOff 64 = .ok (.iload 4, 2) := by decide +kernel
theorem dX11_setsOff_66 : decode cX11_setsOff 66 = .ok (.if_icmp .ne 139, 3) := by decide +kernel
theorem dX11_setsOff_69 : decode cX11_setsOff 69 = .ok (.aload_n 0, 1) := by decide +kernel
theorem dX11_setsOff_70 : decode cX11_setsOff 70 = .ok (.iload 5, 2) := by decide +kernel
theorem dX11_setsOff_72 : decode cX11_setsOff 72 = .ok (.iconst 1, 1) := by decide +kernel
theorem dX11_setsOff_73 : decode cX11_setsOff 73 = .ok (.invokevirtual 139, 3) := by decide +kernel
theorem dX11_setsOff_76 : decode cX11_setsOff 76 = .ok (.iload_n 1, 1) := by decide +kernel
theorem dX11_setsOff_77 : decode cX11_setsOff 77 = .ok (.if_icmp .ne 128, 3) := by decide +kernel
theorem dX11_setsOff_80 : decode cX11_setsOff 80 = .ok (.iload_n 1, 1) := by decide +kernel
theorem dX11_setsOff_81 : decode cX11_setsOff 81 = .ok (.iconst 2, 1) := by decide +kernel
theorem dX11_setsOff_82 : decode cX11_setsOff 82 = .ok (.if_icmp .ne 11, 3) := by decide +kernel
theorem dX11_setsOff_85 : decode cX11_setsOff 85 = .ok (.iload_n 3, 1) := by decide +kernel
theorem dX11_setsOff_86 : decode cX11_setsOff 86 = .ok (.iconst 1, 1) := by decide +kernel
theorem dX11_setsOff_87 : decode cX11_setsOff 87 = .ok (.if_icmp .ne 6, 3) := by decide +kernel
theorem dX11_setsOff_90 : decode cX11_setsOff 90 = .ok (.goto 115, 3) := by decide +kernel
theorem dX11_setsOff_93 : decode cX11_setsOff 93 = .ok (.iload_n 1, 1) := by decide +kernel
theorem dX11_setsOff_94 : decode cX11_setsOff 94 = .ok (.iconst 2, 1) := by decide +kernel
theorem dX11_setsOff_95 : decode cX11_setsOff 95 = .ok (.if_icmp .ne 7, 3) := by decide +kernel
theorem dX11_setsOff_98 : decode cX11_setsOff 98 = .ok (.iconst 1, 1) := by decide +kernel
