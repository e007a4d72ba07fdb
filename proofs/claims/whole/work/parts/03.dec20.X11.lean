theorem dX11_setsOff_99 : decode cX11_setsOff 99 = .ok (.goto 28, 3) := by decide +kernel
theorem dX11_setsOff_102 : decode cX11_setsOff 102 = .ok (.iload_n 2, 1) := by decide +kernel
theorem dX11_setsOff_103 : decode cX11_setsOff 103 = .ok (.aload_n 0, 1) := by decide +kernel
theorem dX11_setsOff_104 : decode cX11_setsOff 104 = .ok (.aload_n 0, 1) := by decide +kernel
theorem dX11_setsOff_105 : decode cX11_setsOff 105 = .ok (.getfield 19, 3) := by decide +kernel
theorem dX11_setsOff_108 : decode cX11_setsOff 108 = .ok (.aload_n 0, 1) := by decide +kernel
theorem dX11_setsOff_109 : decode cX11_setsOff 109 = .ok (.iload 5, 2) := by decide +kernel
theorem dX11_setsOff_111 : decode cX11_setsOff 111 = .ok (.iconst 5, 1) := by decide +kernel
theorem dX11_setsOff_112 : decode cX11_setsOff 112 = .ok (.invokevirtual 139, 3) := by decide +kernel
theorem dX11_setsOff_115 : decode cX11_setsOff 115 = .ok (.aload_n 0, 1) := by decide +kernel
theorem dX11_setsOff_116 : decode cX11_setsOff 116 = .ok (.iload 5, 2) := by decide +kernel
theorem dX11_setsOff_118 : decode cX11_setsOff 118 = .ok (.bipush 6, 2) := by decide +kernel
theorem dX11_setsOff_120 : decode cX11_setsOff 120 = .ok (.invokevirtual 139, 3) := by decide +kernel
theorem dX11_setsOff_123 : decode cX11_setsOff 123 = .ok (.invokevirtual 106, 3) := by decide +kernel
theorem dX11_setsOff_126 : decode cX11_setsOff 126 = .ok (.iand, 1) := by decide +kernel
theorem dX11_setsOff_127 : decode cX11_setsOff 127 = .ok (.istore 6, 2) := by decide +kernel
theorem dX11_setsOff_129 : decode cX11_setsOff 129 = .ok (.iconst 0, 1) := by decide +kernel
theorem dX11_setsOff_130 : decode cX11_setsOff 130 = .ok (.istore 7, 2) := by decide +kernel
theorem dX11_setsOff_132 : decode cX11_setsOff 132 = .ok (.iload 7, 2) := by decide +kernel
theorem dX11_setsOff_134 : decode cX11_setsOff 134 = .ok (.bipush 8, 2) := by decide +kernel
theorem dX11_setsOff_136 : decode cX11_setsOff 136 = .ok (.if_icmp .ge 69, 3) := by decide +kernel
theorem dX11_setsOff_139 : decode cX11_setsOff 139 = .ok (.iload 6, 2) := by decide +kernel
theorem dX11_setsOff_141 : decode cX11_setsOff 141 = .ok (.iload 7, 2) := by decide +kernel
theorem dX11_setsOff_143 : decode cX11_setsOff 143 = .ok (.invokestatic 96, 3) := by decide +kernel
theorem dX11_setsOff_146 : decode cX11_setsOff 146 = .ok (.ifCond .ne 6, 3) := by decide +kernel
theorem dX11_setsOff_149 : decode cX11_setsOff 149 = .ok (.goto 50, 3) := by decide +kernel
theorem dX11_setsOff_152 : decode cX11_setsOff 152 = .ok (.aload_n 0, 1) := by decide +kernel
theorem dX11_setsOff_153 : decode cX11_setsOff 153 = .ok (.getfield 28, 3) := by decide +kernel
theorem dX11_setsOff_156 : decode cX11_setsOff 156 = .ok (.iconst 2, 1) := by decide +kernel
theorem dX11_setsOff_157 : decode cX11_setsOff 157 = .ok (.aload_n 0, 1) := by decide +kernel
theorem dX11_setsOff_158 : decode cX11_setsOff 158 = .ok (.getfield 142, 3) := by decide +kernel
theorem dX11_setsOff_161 : decode cX11_setsOff 161 = .ok (.imul, 1) := by decide +kernel
theorem dX11_setsOff_162 : decode cX11_setsOff 162 = .ok (.iload 5, 2) := by decide +kernel
theorem dX11_setsOff_164 : decode cX11_setsOff 164 = .ok (.iastore, 1) := by decide +kernel
theorem dX11_setsOff_165 : decode cX11_setsOff 165 = .ok (.aload_n 0, 1) := by decide +kernel
theorem dX11_setsOff_166 : decode cX11_setsOff 166 = .ok (.getfield 28, 3) := by decide +kernel
theorem dX11_setsOff_169 : decode cX11_setsOff 169 = .ok (.iconst 2, 1) := by decide +kernel
theorem dX11_setsOff_170 : decode cX11_setsOff 170 = .ok (.aload_n 0, 1) := by decide +kernel
theorem dX11_setsOff_171 : decode cX11_setsOff 171 = .ok (.getfield 142, 3) := by decide +kernel
theorem dX11_setsOff_174 : decode cX11_setsOff 174 = .ok (.imul, 1) := by decide +kernel
theorem dX11_setsOff_175 : decode cX11_setsOff 175 = .ok (.iconst 1, 1) := by decide +kernel
theorem dX11_setsOff_176 : decode cX11_setsOff 176 = .ok (.iadd, 1) := by decide +kernel
theorem dX11_setsOff_177 : decode cX11_setsOff 177 = .ok (.iload_n 1, 1) := by decide +kernel
theorem dX11_setsOff_178 : decode cX11_setsOff 178 = .ok (.iconst 2, 1) := by decide +kernel
theorem dX11_setsOff_179 : decode cX11_setsOff 179 = .ok (.if_icmp .ne 7, 3) := by decide +kernel
theorem dX11_setsOff_182 : decode cX11_setsOff 182 = .ok (.iconst (-1), 1) := by decide +kernel
theorem dX11_setsOff_183 : decode cX11_setsOff 183 = .ok (.goto 5, 3) := by decide +kernel
theorem dX11_setsOff_186 : decode cX11_setsOff 186 = .ok (.iload 7, 2) := by decide +kernel
theorem dX11_setsOff_188 : decode cX11_setsOff 188 = .ok (.iastore, 1) := by decide +kernel
theorem dX11_setsOff_189 : decode cX11_setsOff 189 = .ok (.aload_n 0, 1) := by decide +kernel
theorem dX11_setsOff_190 : decode cX11_setsOff 190 = .ok (.dup, 1) := by decide +kernel
theorem dX11_setsOff_191 : decode cX11_setsOff 191 = .ok (.getfield 142, 3) := by decide +kernel
theorem dX11_setsOff_194 : decode cX11_setsOff 194 = .ok (.iconst 1, 1) := by decide +kernel
theorem dX11_setsOff_195 : decode cX11_setsOff 195 = .ok (.iadd, 1) := by decide +kernel
theorem dX11_setsOff_196 : decode cX11_setsOff 196 = .ok (.putfield 142, 3) := by decide +kernel
theorem dX11_setsOff_199 : decode cX11_setsOff 199 = .ok (.iinc 7 1, 3) := by decide +kernel
theorem dX11_setsOff_202 : decode cX11_setsOff 202 = .ok (.goto (-70), 3) := by decide +kernel
theorem dX11_setsOff_205 : decode cX11_setsOff 205 = .ok (.iinc 5 1, 3) := by decide +kernel
theorem dX11_setsOff_208 : decode cX11_setsOff 208 = .ok (.goto (-164), 3) := by decide +kernel
theorem dX11_setsOff_211 : decode cX11_setsOff 211 = .ok (.iinc 3 1, 3) := by decide +kernel
theorem dX11_setsOff_214 : decode cX11_setsOff 214 = .ok (.goto (-212), 3) := by decide +kernel
theorem dX11_setsOff_217 : decode cX11_setsOff 217 = .ok (.return_, 1) := by decide +kernel
theorem dX11_rounds_0 : decode cX11_rounds 0 = .ok (.iconst 1, 1) := by decide +kernel
theorem dX11_rounds_1 : decode cX11_rounds 1 = .ok (.istore_n 1, 1) := by decide +kernel
theorem dX11_rounds_2 : decode cX11_rounds 2 = .ok (.iload_n 1, 1) := by decide +kernel
theorem dX11_rounds_3 : decode cX11_rounds 3 = .ok (.ifCond .eq 160, 3) := by decide +kernel
theorem dX11_rounds_6 : decode cX11_rounds 6 = .ok (.aload_n 0, 1) := by decide +kernel
theorem dX11_rounds_7 : decode cX11_rounds 7 = .ok (.iconst 5, 1) := by decide +kernel
theorem dX11_rounds_8 : decode cX11_rounds 8 = .ok (.invokevirtual 145, 3) := by decide +kernel
theorem dX11_rounds_11 : decode cX11_rounds 11 = .ok (.iconst 0, 1) := by decide +kernel
theorem dX11_rounds_12 : decode cX11_rounds 12 = .ok (.istore_n 1, 1) := by decide +kernel
theorem dX11_rounds_13 : decode cX11_rounds 13 = .ok (.iconst 0, 1) := by decide +kernel
theorem dX11_rounds_14 : decode cX11_rounds 14 = .ok (.istore_n 2, 1) := by decide +kernel
theorem dX11_rounds_15 : decode cX11_rounds 15 = .ok (.iload_n 2, 1) := by decide +kernel
theorem dX11_rounds_16 : decode cX11_rounds 16 = .ok (.aload_n 0, 1) := by decide +kernel
theorem dX11_rounds_17 : decode cX11_rounds 17 = .ok (.getfield 7, 3) := by decide +kernel
theorem dX11_rounds_20 : decode cX11_rounds 20 = .ok (.sipush 238, 3) := by decide +kernel
theorem dX11_rounds_23 : decode cX11_rounds 23 = .ok (.iaload, 1) := by decide +kernel
theorem dX11_rounds_24 : decode cX11_rounds 24 = .ok (.if_icmp .ge 46, 3) := by decide +kernel
theorem dX11_rounds_27 : decode cX11_rounds 27 = .ok (.iload_n 1, 1) := by decide +kernel
theorem dX11_rounds_28 : decode cX11_rounds 28 = .ok (.aload_n 0, 1) := by decide +kernel
theorem dX11_rounds_29 : decode cX11_rounds 29 = .ok (.iload_n 2, 1) := by decide +kernel
theorem dX11_rounds_30 : decode cX11_rounds 30 = .ok (.invokevirtual 100, 3) := by decide +kernel
theorem dX11_rounds_33 : decode cX11_rounds 33 = .ok (.ifCond .eq 28, 3) := by decide +kernel
theorem dX11_rounds_36 : decode cX11_rounds 36 = .ok (.aload_n 0, 1) := by decide +kernel
theorem dX11_rounds_37 : decode cX11_rounds 37 = .ok (.iload_n 2, 1) := by decide +kernel
theorem dX11_rounds_38 : decode cX11_rounds 38 = .ok (.iconst 4, 1) := by decide +kernel
theorem dX11_rounds_39 : decode cX11_rounds 39 = .ok (.invokevirtual 92, 3) := by decide +kernel
theorem dX11_rounds_42 : decode cX11_rounds 42 = .ok (.aload_n 0, 1) := by decide +kernel
theorem dX11_rounds_43 : decode cX11_rounds 43 = .ok (.getfield 19, 3) := by decide +kernel
theorem dX11_rounds_46 : decode cX11_rounds 46 = .ok (.iconst 4, 1) := by decide +kernel
theorem dX11_rounds_47 : decode cX11_rounds 47 = .ok (.iload_n 2, 1) := by decide +kernel
theorem dX11_rounds_48 : decode cX11_rounds 48 = .ok (.imul, 1) := by decide +kernel
theorem dX11_rounds_49 : decode cX11_rounds 49 = .ok (.iconst 3, 1) := by decide +kernel
theorem dX11_rounds_50 : decode cX11_rounds 50 = .ok (.iadd, 1) := by decide +kernel
theorem dX11_rounds_51 : decode cX11_rounds 51 = .ok (.iaload, 1) := by decide +kernel
theorem dX11_rounds_52 : decode cX11_rounds 52 = .ok (.if_icmp .lt 9, 3) := by decide +kernel
theorem dX11_rounds_55 : decode cX11_rounds 55 = .ok (.iconst 1, 1) := by decide +kernel
theorem dX11_rounds_56 : decode cX11_rounds 56 = .ok (.iload_n 2, 1) := by decide +kernel
theorem dX11_rounds_57 : decode cX11_rounds 57 = .ok (.ishl, 1) := by decide +kernel
theorem dX11_rounds_58 : decode cX11_rounds 58 = .ok (.goto 4, 3) := by decide +kernel
theorem dX11_rounds_61 : decode cX11_rounds 61 = .ok (.iconst 0, 1) := by decide +kernel
theorem dX11_rounds_62 : decode cX11_rounds 62 = .ok (.ior, 1) := by decide +kernel
theorem dX11_rounds_63 : decode cX11_rounds 63 = .ok (.istore_n 1, 1) := by decide +kernel
theorem dX11_rounds_64 : decode cX11_rounds 64 = .ok (.iinc 2 1, 3) := by decide +kernel
theorem dX11_rounds_67 : decode cX11_rounds 67 = .ok (.goto (-52), 3) := by decide +kernel
theorem dX11_rounds_70 : decode cX11_rounds 70 = .ok (.aload_n 0, 1) := by decide +kernel
theorem dX11_rounds_71 : decode cX11_rounds 71 = .ok (.iconst 1, 1) := by decide +kernel
theorem dX11_rounds_72 : decode cX11_rounds 72 = .ok (.iload_n 1, 1) := by decide +kernel
theorem dX11_rounds_73 : decode cX11_rounds 73 = .ok (.invokevirtual 149, 3) := by decide +kernel
theorem dX11_rounds_76 : decode cX11_rounds 76 = .ok (.iconst 0, 1) := by decide +kernel
theorem dX11_rounds_77 : decode cX11_rounds 77 = .ok (.istore_n 2, 1) := by decide +kernel
theorem dX11_rounds_78 : decode cX11_rounds 78 = .ok (.iload_n 2, 1) := by decide +kernel
theorem dX11_rounds_79 : decode cX11_rounds 79 = .ok (.aload_n 0, 1) := by decide +kernel
theorem dX11_rounds_80 : decode cX11_rounds 80 = .ok (.getfield 7, 3) := by decide +kernel
theorem dX11_rounds_83 : decode cX11_rounds 83 = .ok (.sipush 238, 3) := by decide +kernel
theorem dX11_rounds_86 : decode cX11_rounds 86 = .ok (.iaload, 1) := by decide +kernel
theorem dX11_rounds_87 : decode cX11_rounds 87 = .ok (.if_icmp .ge 73, 3) := by decide +kernel
theorem dX11_rounds_90 : decode cX11_rounds 90 = .ok (.iload_n 1, 1) := by decide +kernel
theorem dX11_rounds_91 : decode cX11_rounds 91 = .ok (.iload_n 2, 1) := by decide +kernel
theorem dX11_rounds_92 : decode cX11_rounds 92 = .ok (.invokestatic 96, 3) := by decide +kernel
theorem dX11_rounds_95 : decode cX11_rounds 95 = .ok (.ifCond .ne 6, 3) := by decide +kernel
theorem dX11_rounds_98 : decode cX11_rounds 98 = .ok (.goto 56, 3) := by decide +kernel
theorem dX11_rounds_101 : decode cX11_rounds 101 = .ok (.aload_n 0, 1) := by decide +kernel
theorem dX11_rounds_102 : decode cX11_rounds 102 = .ok (.getfield 7, 3) := by decide +kernel
theorem dX11_rounds_105 : decode cX11_rounds 105 = .ok (.iconst 0, 1) := by decide +kernel
theorem dX11_rounds_106 : decode cX11_rounds 106 = .ok (.bipush 10, 2) := by decide +kernel
theorem dX11_rounds_108 : decode cX11_rounds 108 = .ok (.iload_n 2, 1) := by decide +kernel
theorem dX11_rounds_109 : decode cX11_rounds 109 = .ok (.imul, 1) := by decide +kernel
theorem dX11_rounds_110 : decode cX11_rounds 110 = .ok (.iadd, 1) := by decide +kernel
theorem dX11_rounds_111 : decode cX11_rounds 111 = .ok (.iconst 5, 1) := by decide +kernel
theorem dX11_rounds_112 : decode cX11_rounds 112 = .ok (.iadd, 1) := by decide +kernel
theorem dX11_rounds_113 : decode cX11_rounds 113 = .ok (.iconst 0, 1) := by decide +kernel
theorem dX11_rounds_114 : decode cX11_rounds 114 = .ok (.iastore, 1) := by decide +kernel
theorem dX11_rounds_115 : decode cX11_rounds 115 = .ok (.iconst 0, 1) := by decide +kernel
theorem dX11_rounds_116 : decode cX11_rounds 116 = .ok (.istore_n 3, 1) := by decide +kernel
theorem dX11_rounds_117 : decode cX11_rounds 117 = .ok (.iload_n 3, 1) := by decide +kernel
theorem dX11_rounds_118 : decode cX11_rounds 118 = .ok (.iconst 4, 1) := by decide +kernel
theorem dX11_rounds_119 : decode cX11_rounds 119 = .ok (.if_icmp .ge 35, 3) := by decide +kernel
theorem dX11_rounds_122 : decode cX11_rounds 122 = .ok (.aload_n 0, 1) := by decide +kernel
theorem dX11_rounds_123 : decode cX11_rounds 123 = .ok (.getfield 7, 3) := by decide +kernel
theorem dX11_rounds_126 : decode cX11_rounds 126 = .ok (.iconst 0, 1) := by decide +kernel
theorem dX11_rounds_127 : decode cX11_rounds 127 = .ok (.bipush 10, 2) := by decide +kernel
theorem dX11_rounds_129 : decode cX11_rounds 129 = .ok (.iload_n 2, 1) := by decide +kernel
theorem dX11_rounds_130 : decode cX11_rounds 130 = .ok (.imul, 1) := by decide +kernel
theorem dX11_rounds_131 : decode cX11_rounds 131 = .ok (.iadd, 1) := by decide +kernel
theorem dX11_rounds_132 : decode cX11_rounds 132 = .ok (.bipush 6, 2) := by decide +kernel
theorem dX11_rounds_134 : decode cX11_rounds 134 = .ok (.iadd, 1) := by decide +kernel
theorem dX11_rounds_135 : decode cX11_rounds 135 = .ok (.iload_n 3, 1) := by decide +kernel
theorem dX11_rounds_136 : decode cX11_rounds 136 = .ok (.iadd, 1) := by decide +kernel
theorem dX11_rounds_137 : decode cX11_rounds 137 = .ok (.aload_n 0, 1) := by decide +kernel
theorem dX11_rounds_138 : decode cX11_rounds 138 = .ok (.getfield 19, 3) := by decide +kernel
theorem dX11_rounds_141 : decode cX11_rounds 141 = .ok (.iconst 4, 1) := by decide +kernel
theorem dX11_rounds_142 : decode cX11_rounds 142 = .ok (.iload_n 2, 1) := by decide +kernel
theorem dX11_rounds_143 : decode cX11_rounds 143 = .ok (.imul, 1) := by decide +kernel
theorem dX11_rounds_144 : decode cX11_rounds 144 = .ok (.iload_n 3, 1) := by decide +kernel
theorem dX11_rounds_145 : decode cX11_rounds 145 = .ok (.iadd, 1) := by decide +kernel
theorem dX11_rounds_146 : decode cX11_rounds 146 = .ok (.iaload, 1) := by decide +kernel
theorem dX11_rounds_147 : decode cX11_rounds 147 = .ok (.iastore, 1) := by decide +kernel
theorem dX11_rounds_148 : decode cX11_rounds 148 = .ok (.iinc 3 1, 3) := by decide +kernel
theorem dX11_rounds_151 : decode cX11_rounds 151 = .ok (.goto (-34), 3) := by decide +kernel
theorem dX11_rounds_154 : decode cX11_rounds 154 = .ok (.iinc 2 1, 3) := by decide +kernel
theorem dX11_rounds_157 : decode cX11_rounds 157 = .ok (.goto (-79), 3) := by decide +kernel
theorem dX11_rounds_160 : decode cX11_rounds 160 = .ok (.goto (-158), 3) := by decide +kernel
theorem dX11_rounds_163 : decode cX11_rounds 163 = .ok (.return_, 1) := by decide +kernel
theorem dX11_changed_0 : decode cX11_changed 0 = .ok (.aload_n 0, 1) := by decide +kernel
theorem dX11_changed_1 : decode cX11_changed 1 = .ok (.iconst 0, 1) := by decide +kernel
theorem dX11_changed_2 : decode cX11_changed 2 = .ok (.putfield 135, 3) := by decide +kernel
theorem dX11_changed_5 : decode cX11_changed 5 = .ok (.aload_n 0, 1) := by decide +kernel
theorem dX11_changed_6 : decode cX11_changed 6 = .ok (.invokevirtual 153, 3) := by decide +kernel
theorem dX11_changed_9 : decode cX11_changed 9 = .ok (.iload_n 1, 1) := by decide +kernel
theorem dX11_changed_10 : decode cX11_changed 10 = .ok (.ireturn, 1) := by decide +kernel
theorem dX11_isNow_0 : decode cX11_isNow 0 = .ok (.aload_n 0, 1) := by decide +kernel
theorem dX11_isNow_1 : decode cX11_isNow 1 = .ok (.iload_n 1, 1) := by decide +kernel
theorem dX11_isNow_2 : decode cX11_isNow 2 = .ok (.invokevirtual 100, 3) := by decide +kernel
theorem dX11_isNow_5 : decode cX11_isNow 5 = .ok (.ifCond .eq 16, 3) := by decide +kernel
theorem dX11_isNow_8 : decode cX11_isNow 8 = .ok (.aload_n 0, 1) := by decide +kernel
theorem dX11_isNow_9 : decode cX11_isNow 9 = .ok (.getfield 19, 3) := by decide +kernel
theorem dX11_isNow_12 : decode cX11_isNow 12 = .ok (.iconst 4, 1) := by decide +kernel
theorem dX11_isNow_13 : decode cX11_isNow 13 = .ok (.iload_n 1, 1) := by decide +kernel
theorem dX11_isNow_14 : decode cX11_isNow 14 = .ok (.imul, 1) := by decide +kernel
theorem dX11_isNow_15 : decode cX11_isNow 15 = .ok (.iload_n 2, 1) := by decide +kernel
theorem dX11_isNow_16 : decode cX11_isNow 16 = .ok (.iadd, 1) := by decide +kernel
theorem dX11_isNow_17 : decode cX11_isNow 17 = .ok (.iaload, 1) := by decide +kernel
theorem dX11_isNow_18 : decode cX11_isNow 18 = .ok (.goto 12, 3) := by decide +kernel
theorem dX11_isNow_21 : decode cX11_isNow 21 = .ok (.aload_n 0, 1) := by decide +kernel
theorem dX11_isNow_22 : decode cX11_isNow 22 = .ok (.iload_n 1, 1) := by decide +kernel
theorem dX11_isNow_23 : decode cX11_isNow 23 = .ok (.bipush 6, 2) := by decide +kernel
theorem dX11_isNow_25 : decode cX11_isNow 25 = .ok (.iload_n 2, 1) := by decide +kernel
theorem dX11_isNow_26 : decode cX11_isNow 26 = .ok (.iadd, 1) := by decide +kernel
theorem dX11_isNow_27 : decode cX11_isNow 27 = .ok (.invokevirtual 92, 3) := by decide +kernel
theorem dX11_isNow_30 : decode cX11_isNow 30 = .ok (.ireturn, 1) := by decide +kernel
theorem dX11_clear_0 : decode cX11_clear 0 = .ok (.aload_n 0, 1) := by decide +kernel
theorem dX11_clear_1 : decode cX11_clear 1 = .ok (.getfield 7, 3) := by decide +kernel
theorem dX11_clear_4 : decode cX11_clear 4 = .ok (.sipush 238, 3) := by decide +kernel
theorem dX11_clear_7 : decode cX11_clear 7 = .ok (.iaload, 1) := by decide +kernel
theorem dX11_clear_8 : decode cX11_clear 8 = .ok (.istore_n 1, 1) := by decide +kernel
theorem dX11_clear_9 : decode cX11_clear 9 = .ok (.aload_n 0, 1) := by decide +kernel
theorem dX11_clear_10 : decode cX11_clear 10 = .ok (.getfield 7, 3) := by decide +kernel
theorem dX11_clear_13 : decode cX11_clear 13 = .ok (.sipush 245, 3) := by decide +kernel
theorem dX11_clear_16 : decode cX11_clear 16 = .ok (.iaload, 1) := by decide +kernel
theorem dX11_clear_17 : decode cX11_clear 17 = .ok (.istore_n 2, 1) := by decide +kernel
theorem dX11_clear_18 : decode cX11_clear 18 = .ok (.iconst 0, 1) := by decide +kernel
theorem dX11_clear_19 : decode cX11_clear 19 = .ok (.istore_n 3, 1) := by decide +kernel
theorem dX11_clear_20 : decode cX11_clear 20 = .ok (.iload_n 3, 1) := by decide +kernel
theorem dX11_clear_21 : decode cX11_clear 21 = .ok (.sipush 246, 3) := by decide +kernel
theorem dX11_clear_24 : decode cX11_clear 24 = .ok (.if_icmp .ge 16, 3) := by decide +kernel
theorem dX11_clear_27 : decode cX11_clear 27 = .ok (.aload_n 0, 1) := by decide +kernel
theorem dX11_clear_28 : decode cX11_clear 28 = .ok (.getfield 7, 3) := by decide +kernel
theorem dX11_clear_31 : decode cX11_clear 31 = .ok (.iload_n 3, 1) := by decide +kernel
theorem dX11_clear_32 : decode cX11_clear 32 = .ok (.iconst 0, 1) := by decide +kernel
theorem dX11_clear_33 : decode cX11_clear 33 = .ok (.iastore, 1) := by decide +kernel
theorem dX11_clear_34 : decode cX11_clear 34 = .ok (.iinc 3 1, 3) := by decide +kernel
theorem dX11_clear_37 : decode cX11_clear 37 = .ok (.goto (-17), 3) := by decide +kernel
theorem dX11_clear_40 : decode cX11_clear 40 = .ok (.aload_n 0, 1) := by decide +kernel
theorem dX11_clear_41 : decode cX11_clear 41 = .ok (.getfield 7, 3) := by decide +kernel
theorem dX11_clear_44 : decode cX11_clear 44 = .ok (.sipush 245, 3) := by decide +kernel
theorem dX11_clear_47 : decode cX11_clear 47 = .ok (.iload_n 2, 1) := by decide +kernel
theorem dX11_clear_48 : decode cX11_clear 48 = .ok (.iastore, 1) := by decide +kernel
theorem dX11_clear_49 : decode cX11_clear 49 = .ok (.aload_n 0, 1) := by decide +kernel
theorem dX11_clear_50 : decode cX11_clear 50 = .ok (.iconst 0, 1) := by decide +kernel
theorem dX11_clear_51 : decode cX11_clear 51 = .ok (.putfield 156, 3) := by decide +kernel
theorem dX11_clear_54 : decode cX11_clear 54 = .ok (.iload_n 1, 1) := by decide +kernel
theorem dX11_clear_55 : decode cX11_clear 55 = .ok (.ireturn, 1) := by decide +kernel
theorem dX11_areGood_0 : decode cX11_areGood 0 = .ok (.iload_n 0, 1) := by decide +kernel
theorem dX11_areGood_1 : decode cX11_areGood 1 = .ok (.iconst 0, 1) := by decide +kernel
theorem dX11_areGood_2 : decode cX11_areGood 2 = .ok (.iconst 1, 1) := by decide +kernel
theorem dX11_areGood_3 : decode cX11_areGood 3 = .ok (.invokestatic 84, 3) := by decide +kernel
theorem dX11_areGood_6 : decode cX11_areGood 6 = .ok (.ifCond .eq 36, 3) := by decide +kernel
theorem dX11_areGood_9 : decode cX11_areGood 9 = .ok (.iload_n 1, 1) := by decide +kernel
theorem dX11_areGood_10 : decode cX11_areGood 10 = .ok (.iconst 0, 1) := by decide +kernel
theorem dX11_areGood_11 : decode cX11_areGood 11 = .ok (.iconst 5, 1) := by decide +kernel
theorem dX11_areGood_12 : decode cX11_areGood 12 = .ok (.invokestatic 84, 3) := by decide +kernel
theorem dX11_areGood_15 : decode cX11_areGood 15 = .ok (.ifCond .eq 27, 3) := by decide +kernel
theorem dX11_areGood_18 : decode cX11_areGood 18 = .ok (.iload_n 2, 1) := by decide +kernel
theorem dX11_areGood_19 : decode cX11_areGood 19 = .ok (.iconst 0, 1) := by decide +kernel
theorem dX11_areGood_20 : decode cX11_areGood 20 = .ok (.bipush 99, 2) := by decide +kernel
theorem dX11_areGood_22 : decode cX11_areGood 22 = .ok (.invokestatic 84, 3) := by decide +kernel
theorem dX11_areGood_25 : decode cX11_areGood 25 = .ok (.ifCond .eq 17, 3) := by decide +kernel
theorem dX11_areGood_28 : decode cX11_areGood 28 = .ok (.iload_n 3, 1) := by decide +kernel
theorem dX11_areGood_29 : decode cX11_areGood 29 = .ok (.iconst 0, 1) := by decide +kernel
theorem dX11_areGood_30 : decode cX11_areGood 30 = .ok (.bipush 99, 2) := by decide +kernel
theorem dX11_areGood_32 : decode cX11_areGood 32 = .ok (.invokestatic 84, 3) := by decide +kernel
theorem dX11_areGood_35 : decode cX11_areGood 35 = .ok (.ifCond .eq 7, 3) := by decide +kernel
theorem dX11_areGood_38 : decode cX11_areGood 38 = .ok (.iconst 1, 1) := by decide +kernel
theorem dX11_areGood_39 : decode cX11_areGood 39 = .ok (.goto 4, 3) := by decide +kernel
theorem dX11_areGood_42 : decode cX11_areGood 42 = .ok (.iconst 0, 1) := by decide +kernel
theorem dX11_areGood_43 : decode cX11_areGood 43 = .ok (.ireturn, 1) := by decide +kernel
theorem dX11_comes_0 : decode cX11_comes 0 = .ok (.iconst 0, 1) := by decide +kernel
theorem dX11_comes_1 : decode cX11_comes 1 = .ok (.bipush 10, 2) := by decide +kernel
theorem dX11_comes_3 : decode cX11_comes 3 = .ok (.aload_n 0, 1) := by decide +kernel
theorem dX11_comes_4 : decode cX11_comes 4 = .ok (.getfield 7, 3) := by decide +kernel
theorem dX11_comes_7 : decode cX11_comes 7 = .ok (.sipush 238, 3) := by decide +kernel
theorem dX11_comes_10 : decode cX11_comes 10 = .ok (.iaload, 1) := by decide +kernel
theorem dX11_comes_11 : decode cX11_comes 11 = .ok (.imul, 1) := by decide +kernel
theorem dX11_comes_12 : decode cX11_comes 12 = .ok (.iadd, 1) := by decide +kernel
theorem dX11_comes_13 : decode cX11_comes 13 = .ok (.istore 5, 2) := by decide +kernel
theorem dX11_comes_15 : decode cX11_comes 15 = .ok (.iconst 0, 1) := by decide +kernel
theorem dX11_comes_16 : decode cX11_comes 16 = .ok (.istore 6, 2) := by decide +kernel
theorem dX11_comes_18 : decode cX11_comes 18 = .ok (.iload 6, 2) := by decide +kernel
theorem dX11_comes_20 : decode cX11_comes 20 = .ok (.bipush 10, 2) := by decide +kernel
theorem dX11_comes_22 : decode cX11_comes 22 = .ok (.if_icmp .ge 20, 3) := by decide +kernel
theorem dX11_comes_25 : decode cX11_comes 25 = .ok (.aload_n 0, 1) := by decide +kernel
theorem dX11_comes_26 : decode cX11_comes 26 = .ok (.getfield 7, 3) := by decide +kernel
theorem dX11_comes_29 : decode cX11_comes 29 = .ok (.iload 5, 2) := by decide +kernel
theorem dX11_comes_31 : decode cX11_comes 31 = .ok (.iload 6, 2) := by decide +kernel
theorem dX11_comes_33 : decode cX11_comes 33 = .ok (.iadd, 1) := by decide +kernel
theorem dX11_comes_34 : decode cX11_comes 34 = .ok (.iconst 0, 1) := by decide +kernel
theorem dX11_comes_35 : decode cX11_comes 35 = .ok (.iastore, 1) := by decide +kernel
theorem dX11_comes_36 : decode cX11_comes 36 = .ok (.iinc 6 1, 3) := by decide +kernel
theorem dX11_comes_39 : decode cX11_comes 39 = .ok (.goto (-21), 3) := by decide +kernel
theorem dX11_comes_42 : decode cX11_comes 42 = .ok (.aload_n 0, 1) := by decide +kernel
theorem dX11_comes_43 : decode cX11_comes 43 = .ok (.getfield 7, 3) := by decide +kernel
theorem dX11_comes_46 : decode cX11_comes 46 = .ok (.iload 5, 2) := by decide +kernel
theorem dX11_comes_48 : decode cX11_comes 48 = .ok (.iload_n 1, 1) := by decide +kernel
theorem dX11_comes_49 : decode cX11_comes 49 = .ok (.iastore, 1) := by decide +kernel
theorem dX11_comes_50 : decode cX11_comes 50 = .ok (.aload_n 0, 1) := by decide +kernel
theorem dX11_comes_51 : decode cX11_comes 51 = .ok (.getfield 7, 3) := by decide +kernel
theorem dX11_comes_54 : decode cX11_comes 54 = .ok (.iload 5, 2) := by decide +kernel
theorem dX11_comes_56 : decode cX11_comes 56 = .ok (.iconst 1, 1) := by decide +kernel
theorem dX11_comes_57 : decode cX11_comes 57 = .ok (.iadd, 1) := by decide +kernel
theorem dX11_comes_58 : decode cX11_comes 58 = .ok (.iload_n 2, 1) := by decide +kernel
theorem dX11_comes_59 : decode cX11_comes 59 = .ok (.iastore, 1) := by decide +kernel
theorem dX11_comes_60 : decode cX11_comes 60 = .ok (.aload_n 0, 1) := by decide +kernel
theorem dX11_comes_61 : decode cX11_comes 61 = .ok (.getfield 7, 3) := by decide +kernel
theorem dX11_comes_64 : decode cX11_comes 64 = .ok (.iload 5, 2) := by decide +kernel
theorem dX11_comes_66 : decode cX11_comes 66 = .ok (.iconst 2, 1) := by decide +kernel
theorem dX11_comes_67 : decode cX11_comes 67 = .ok (.iadd, 1) := by decide +kernel
theorem dX11_comes_68 : decode cX11_comes 68 = .ok (.iload_n 3, 1) := by decide +kernel
theorem dX11_comes_69 : decode cX11_comes 69 = .ok (.iastore, 1) := by decide +kernel
theorem dX11_comes_70 : decode cX11_comes 70 = .ok (.aload_n 0, 1) := by decide +kernel
theorem dX11_comes_71 : decode cX11_comes 71 = .ok (.getfield 7, 3) := by decide +kernel
theorem dX11_comes_74 : decode cX11_comes 74 = .ok (.iload 5, 2) := by decide +kernel
theorem dX11_comes_76 : decode cX11_comes 76 = .ok (.iconst 3, 1) := by decide +kernel
theorem dX11_comes_77 : decode cX11_comes 77 = .ok (.iadd, 1) := by decide +kernel
theorem dX11_comes_78 : decode cX11_comes 78 = .ok (.iload 4, 2) := by decide +kernel
theorem dX11_comes_80 : decode cX11_comes 80 = .ok (.iastore, 1) := by decide +kernel
theorem dX11_comes_81 : decode cX11_comes 81 = .ok (.aload_n 0, 1) := by decide +kernel
theorem dX11_comes_82 : decode cX11_comes 82 = .ok (.getfield 7, 3) := by decide +kernel
theorem dX11_comes_85 : decode cX11_comes 85 = .ok (.iload 5, 2) := by decide +kernel
theorem dX11_comes_87 : decode cX11_comes 87 = .ok (.iconst 5, 1) := by decide +kernel
theorem dX11_comes_88 : decode cX11_comes 88 = .ok (.iadd, 1) := by decide +kernel
theorem dX11_comes_89 : decode cX11_comes 89 = .ok (.iconst 1, 1) := by decide +kernel
theorem dX11_comes_90 : decode cX11_comes 90 = .ok (.iastore, 1) := by decide +kernel
theorem dX11_comes_91 : decode cX11_comes 91 = .ok (.aload_n 0, 1) := by decide +kernel
theorem dX11_comes_92 : decode cX11_comes 92 = .ok (.getfield 7, 3) := by decide +kernel
theorem dX11_comes_95 : decode cX11_comes 95 = .ok (.sipush 238, 3) := by decide +kernel
theorem dX11_comes_98 : decode cX11_comes 98 = .ok (.dup2, 1) := by decide +kernel
theorem dX11_comes_99 : decode cX11_comes 99 = .ok (.iaload, 1) := by decide +kernel
theorem dX11_comes_100 : decode cX11_comes 100 = .ok (.iconst 1, 1) := by decide +kernel
theorem dX11_comes_101 : decode cX11_comes 101 = .ok (.iadd, 1) := by decide +kernel
theorem dX11_comes_102 : decode cX11_comes 102 = .ok (.iastore, 1) := by decide +kernel
theorem dX11_comes_103 : decode cX11_comes 103 = .ok (.return_, 1) := by decide +kernel
theorem dX11_thing_0 : decode cX11_thing 0 = .ok (.iload_n 1, 1) := by decide +kernel
theorem dX11_thing_1 : decode cX11_thing 1 = .ok (.iload_n 2, 1) := by decide +kernel
theorem dX11_thing_2 : decode cX11_thing 2 = .ok (.iload_n 3, 1) := by decide +kernel
theorem dX11_thing_3 : decode cX11_thing 3 = .ok (.iload 4, 2) := by decide +kernel
theorem dX11_thing_5 : decode cX11_thing 5 = .ok (.invokestatic 159, 3) := by decide +kernel
theorem dX11_thing_8 : decode cX11_thing 8 = .ok (.ifCond .ne 6, 3) := by decide +kernel
theorem dX11_thing_11 : decode cX11_thing 11 = .ok (.bipush (-2), 2) := by decide +kernel
theorem dX11_thing_13 : decode cX11_thing 13 = .ok (.ireturn, 1) := by decide +kernel
theorem dX11_thing_14 : decode cX11_thing 14 = .ok (.aload_n 0, 1) := by decide +kernel
theorem dX11_thing_15 : decode cX11_thing 15 = .ok (.getfield 7, 3) := by decide +kernel
theorem dX11_thing_18 : decode cX11_thing 18 = .ok (.sipush 238, 3) := by decide +kernel
theorem dX11_thing_21 : decode cX11_thing 21 = .ok (.iaload, 1) := by decide +kernel
theorem dX11_thing_22 : decode cX11_thing 22 = .ok (.bipush 8, 2) := by decide +kernel
theorem dX11_thing_24 : decode cX11_thing 24 = .ok (.if_icmp .ne 6, 3) := by decide +kernel
theorem dX11_thing_27 : decode cX11_thing 27 = .ok (.bipush (-4), 2) := by decide +kernel
theorem dX11_thing_29 : decode cX11_thing 29 = .ok (.ireturn, 1) := by decide +kernel
theorem dX11_thing_30 : decode cX11_thing 30 = .ok (.aload_n 0, 1) := by decide +kernel
theorem dX11_thing_31 : decode cX11_thing 31 = .ok (.iload_n 1, 1) := by decide +kernel
theorem dX11_thing_32 : decode cX11_thing 32 = .ok (.iload_n 2, 1) := by decide +kernel
theorem dX11_thing_33 : decode cX11_thing 33 = .ok (.iload_n 3, 1) := by decide +kernel
theorem dX11_thing_34 : decode cX11_thing 34 = .ok (.iload 4, 2) := by decide +kernel
theorem dX11_thing_36 : decode cX11_thing 36 = .ok (.invokevirtual 163, 3) := by decide +kernel
theorem dX11_thing_39 : decode cX11_thing 39 = .ok (.aload_n 0, 1) := by decide +kernel
theorem dX11_thing_40 : decode cX11_thing 40 = .ok (.aload_n 0, 1) := by decide +kernel
theorem dX11_thing_41 : decode cX11_thing 41 = .ok (.getfield 7, 3) := by decide +kernel
theorem dX11_thing_44 : decode cX11_thing 44 = .ok (.sipush 238, 3) := by decide +kernel
theorem dX11_thing_47 : decode cX11_thing 47 = .ok (.iaload, 1) := by decide +kernel
theorem dX11_thing_48 : decode cX11_thing 48 = .ok (.iconst 1, 1) := by decide +kernel
theorem dX11_thing_49 : decode cX11_thing 49 = .ok (.isub, 1) := by decide +kernel
theorem dX11_thing_50 : decode cX11_thing 50 = .ok (.invokevirtual 167, 3) := by decide +kernel
theorem dX11_thing_53 : decode cX11_thing 53 = .ok (.ireturn, 1) := by decide +kernel
theorem dX11_of_0 : decode cX11_of 0 = .ok (.aload_n 0, 1) := by decide +kernel
theorem dX11_of_1 : decode cX11_of 1 = .ok (.iload_n 1, 1) := by decide +kernel
theorem dX11_of_2 : decode cX11_of 2 = .ok (.invokevirtual 88, 3) := by decide +kernel
theorem dX11_of_5 : decode cX11_of 5 = .ok (.ifCond .eq 21, 3) := by decide +kernel
theorem dX11_of_8 : decode cX11_of 8 = .ok (.iload_n 2, 1) := by decide +kernel
theorem dX11_of_9 : decode cX11_of 9 = .ok (.iconst 0, 1) := by decide +kernel
theorem dX11_of_10 : decode cX11_of 10 = .ok (.iconst 5, 1) := by decide +kernel
theorem dX11_of_11 : decode cX11_of 11 = .ok (.invokestatic 84, 3) := by decide +kernel
theorem dX11_of_14 : decode cX11_of 14 = .ok (.ifCond .eq 12, 3) := by decide +kernel
theorem dX11_of_17 : decode cX11_of 17 = .ok (.aload_n 0, 1) := by decide +kernel
theorem dX11_of_18 : decode cX11_of 18 = .ok (.iload_n 1, 1) := by decide +kernel
theorem dX11_of_19 : decode cX11_of 19 = .ok (.iload_n 2, 1) := by decide +kernel
theorem dX11_of_20 : decode cX11_of 20 = .ok (.invokevirtual 92, 3) := by decide +kernel
theorem dX11_of_23 : decode cX11_of 23 = .ok (.goto 5, 3) := by decide +kernel
theorem dX11_of_26 : decode cX11_of 26 = .ok (.bipush (-2), 2) := by decide +kernel
theorem dX11_of_28 : decode cX11_of 28 = .ok (.ireturn, 1) := by decide +kernel
theorem dX11_now_0 : decode cX11_now 0 = .ok (.aload_n 0, 1) := by decide +kernel
theorem dX11_now_1 : decode cX11_now 1 = .ok (.iload_n 1, 1) := by decide +kernel
theorem dX11_now_2 : decode cX11_now 2 = .ok (.invokevirtual 88, 3) := by decide +kernel
theorem dX11_now_5 : decode cX11_now 5 = .ok (.ifCond .eq 12, 3) := by decide +kernel
theorem dX11_now_8 : decode cX11_now 8 = .ok (.iload_n 2, 1) := by decide +kernel
theorem dX11_now_9 : decode cX11_now 9 = .ok (.iconst 0, 1) := by decide +kernel
theorem dX11_now_10 : decode cX11_now 10 = .ok (.iconst 3, 1) := by decide +kernel
theorem dX11_now_11 : decode cX11_now 11 = .ok (.invokestatic 84, 3) := by decide +kernel
theorem dX11_now_14 : decode cX11_now 14 = .ok (.ifCond .ne 6, 3) := by decide +kernel
theorem dX11_now_17 : decode cX11_now 17 = .ok (.bipush (-2), 2) := by decide +kernel
theorem dX11_now_19 : decode cX11_now 19 = .ok (.ireturn, 1) := by decide +kernel
theorem dX11_now_20 : decode cX11_now 20 = .ok (.aload_n 0, 1) := by decide +kernel
theorem dX11_now_21 : decode cX11_now 21 = .ok (.iconst 5, 1) := by decide +kernel
theorem dX11_now_22 : decode cX11_now 22 = .ok (.invokevirtual 145, 3) := by decide +kernel
theorem dX11_now_25 : decode cX11_now 25 = .ok (.aload_n 0, 1) := by decide +kernel
theorem dX11_now_26 : decode cX11_now 26 = .ok (.iload_n 1, 1) := by decide +kernel
theorem dX11_now_27 : decode cX11_now 27 = .ok (.iload_n 2, 1) := by decide +kernel
theorem dX11_now_28 : decode cX11_now 28 = .ok (.invokevirtual 170, 3) := by decide +kernel
theorem dX11_now_31 : decode cX11_now 31 = .ok (.ireturn, 1) := by decide +kernel
theorem dX11_set_0 : decode cX11_set 0 = .ok (.aload_n 0, 1) := by decide +kernel
theorem dX11_set_1 : decode cX11_set 1 = .ok (.iload_n 1, 1) := by decide +kernel
theorem dX11_set_2 : decode cX11_set 2 = .ok (.invokevirtual 88, 3) := by decide +kernel
theorem dX11_set_5 : decode cX11_set 5 = .ok (.ifCond .eq 42, 3) := by decide +kernel
theorem dX11_set_8 : decode cX11_set 8 = .ok (.iload_n 2, 1) := by decide +kernel
theorem dX11_set_9 : decode cX11_set 9 = .ok (.iconst 1, 1) := by decide +kernel
theorem dX11_set_10 : decode cX11_set 10 = .ok (.iconst 4, 1) := by decide +kernel
theorem dX11_set_11 : decode cX11_set 11 = .ok (.invokestatic 84, 3) := by decide +kernel
theorem dX11_set_14 : decode cX11_set 14 = .ok (.ifCond .eq 33, 3) := by decide +kernel
theorem dX11_set_17 : decode cX11_set 17 = .ok (.iload_n 3, 1) := by decide +kernel
theorem dX11_set_18 : decode cX11_set 18 = .ok (.iconst 0, 1) := by decide +kernel
theorem dX11_set_19 : decode cX11_set 19 = .ok (.iload_n 2, 1) := by decide +kernel
theorem dX11_set_20 : decode cX11_set 20 = .ok (.iconst 1, 1) := by decide +kernel
theorem dX11_set_21 : decode cX11_set 21 = .ok (.if_icmp .ne 7, 3) := by decide +kernel
theorem dX11_set_24 : decode cX11_set 24 = .ok (.iconst 5, 1) := by decide +kernel
theorem dX11_set_25 : decode cX11_set 25 = .ok (.goto 16, 3) := by decide +kernel
theorem dX11_set_28 : decode cX11_set 28 = .ok (.iload_n 2, 1) := by decide +kernel
theorem dX11_set_29 : decode cX11_set 29 = .ok (.iconst 4, 1) := by decide +kernel
theorem dX11_set_30 : decode cX11_set 30 = .ok (.if_icmp .ne 9, 3) := by decide +kernel
theorem dX11_set_33 : decode cX11_set 33 = .ok (.sipush 999, 3) := by decide +kernel
theorem dX11_set_36 : decode cX11_set 36 = .ok (.goto 5, 3) := by decide +kernel
