theorem dX11_leads_12 : decode cX11_leads 12 = .ok (.putfield 204, 3) := by decide +kernel
theorem dX11_leads_15 : decode cX11_leads 15 = .ok (.aload_n 0, 1) := by decide +kernel
theorem dX11_leads_16 : decode cX11_leads 16 = .ok (.iconst 0, 1) := by decide +kernel
theorem dX11_leads_17 : decode cX11_leads 17 = .ok (.putfield 198, 3) := by decide +kernel
theorem dX11_leads_20 : decode cX11_leads 20 = .ok (.aload_n 0, 1) := by decide +kernel
theorem dX11_leads_21 : decode cX11_leads 21 = .ok (.iconst 0, 1) := by decide +kernel
theorem dX11_leads_22 : decode cX11_leads 22 = .ok (.putfield 207, 3) := by decide +kernel
theorem dX11_leads_25 : decode cX11_leads 25 = .ok (.aload_n 0, 1) := by decide +kernel
theorem dX11_leads_26 : decode cX11_leads 26 = .ok (.iconst 0, 1) := by decide +kernel
theorem dX11_leads_27 : decode cX11_leads 27 = .ok (.putfield 210, 3) := by decide +kernel
theorem dX11_leads_30 : decode cX11_leads 30 = .ok (.aload_n 0, 1) := by decide +kernel
theorem dX11_leads_31 : decode cX11_leads 31 = .ok (.invokevirtual 213, 3) := by decide +kernel
theorem dX11_leads_34 : decode cX11_leads 34 = .ok (.istore 4, 2) := by decide +kernel
theorem dX11_leads_36 : decode cX11_leads 36 = .ok (.aload_n 0, 1) := by decide +kernel
theorem dX11_leads_37 : decode cX11_leads 37 = .ok (.getfield 204, 3) := by decide +kernel
theorem dX11_leads_40 : decode cX11_leads 40 = .ok (.ifCond .le 218, 3) := by decide +kernel
theorem dX11_leads_43 : decode cX11_leads 43 = .ok (.aload_n 0, 1) := by decide +kernel
theorem dX11_leads_44 : decode cX11_leads 44 = .ok (.getfield 210, 3) := by decide +kernel
theorem dX11_leads_47 : decode cX11_leads 47 = .ok (.ifCond .ne 211, 3) := by decide +kernel
theorem dX11_leads_50 : decode cX11_leads 50 = .ok (.iload 4, 2) := by decide +kernel
theorem dX11_leads_52 : decode cX11_leads 52 = .ok (.iconst (-1), 1) := by decide +kernel
theorem dX11_leads_53 : decode cX11_leads 53 = .ok (.if_icmp .eq 205, 3) := by decide +kernel
theorem dX11_leads_56 : decode cX11_leads 56 = .ok (.aload_n 0, 1) := by decide +kernel
theorem dX11_leads_57 : decode cX11_leads 57 = .ok (.dup, 1) := by decide +kernel
theorem dX11_leads_58 : decode cX11_leads 58 = .ok (.getfield 198, 3) := by decide +kernel
theorem dX11_leads_61 : decode cX11_leads 61 = .ok (.iconst 1, 1) := by decide +kernel
theorem dX11_leads_62 : decode cX11_leads 62 = .ok (.iload 4, 2) := by decide +kernel
theorem dX11_leads_64 : decode cX11_leads 64 = .ok (.ishl, 1) := by decide +kernel
theorem dX11_leads_65 : decode cX11_leads 65 = .ok (.ior, 1) := by decide +kernel
theorem dX11_leads_66 : decode cX11_leads 66 = .ok (.putfield 198, 3) := by decide +kernel
theorem dX11_leads_69 : decode cX11_leads 69 = .ok (.aload_n 0, 1) := by decide +kernel
theorem dX11_leads_70 : decode cX11_leads 70 = .ok (.dup, 1) := by decide +kernel
theorem dX11_leads_71 : decode cX11_leads 71 = .ok (.getfield 207, 3) := by decide +kernel
theorem dX11_leads_74 : decode cX11_leads 74 = .ok (.iconst 1, 1) := by decide +kernel
theorem dX11_leads_75 : decode cX11_leads 75 = .ok (.iadd, 1) := by decide +kernel
theorem dX11_leads_76 : decode cX11_leads 76 = .ok (.putfield 207, 3) := by decide +kernel
theorem dX11_leads_79 : decode cX11_leads 79 = .ok (.aload_n 0, 1) := by decide +kernel
theorem dX11_leads_80 : decode cX11_leads 80 = .ok (.iload 4, 2) := by decide +kernel
theorem dX11_leads_82 : decode cX11_leads 82 = .ok (.iconst 3, 1) := by decide +kernel
theorem dX11_leads_83 : decode cX11_leads 83 = .ok (.invokevirtual 192, 3) := by decide +kernel
theorem dX11_leads_86 : decode cX11_leads 86 = .ok (.istore 5, 2) := by decide +kernel
theorem dX11_leads_88 : decode cX11_leads 88 = .ok (.aload_n 0, 1) := by decide +kernel
theorem dX11_leads_89 : decode cX11_leads 89 = .ok (.iload 4, 2) := by decide +kernel
theorem dX11_leads_91 : decode cX11_leads 91 = .ok (.iconst 0, 1) := by decide +kernel
theorem dX11_leads_92 : decode cX11_leads 92 = .ok (.invokevirtual 192, 3) := by decide +kernel
theorem dX11_leads_95 : decode cX11_leads 95 = .ok (.tableswitch 149 0 3 #[29, 91, 109, 140], 29) := by decide +kernel
theorem dX11_leads_124 : decode cX11_leads 124 = .ok (.iload 5, 2) := by decide +kernel
theorem dX11_leads_126 : decode cX11_leads 126 = .ok (.aload_n 0, 1) := by decide +kernel
theorem dX11_leads_127 : decode cX11_leads 127 = .ok (.getfield 204, 3) := by decide +kernel
theorem dX11_leads_130 : decode cX11_leads 130 = .ok (.if_icmp .ge 8, 3) := by decide +kernel
theorem dX11_leads_133 : decode cX11_leads 133 = .ok (.iload 5, 2) := by decide +kernel
theorem dX11_leads_135 : decode cX11_leads 135 = .ok (.goto 7, 3) := by decide +kernel
theorem dX11_leads_138 : decode cX11_leads 138 = .ok (.aload_n 0, 1) := by decide +kernel
theorem dX11_leads_139 : decode cX11_leads 139 = .ok (.getfield 204, 3) := by decide +kernel
theorem dX11_leads_142 : decode cX11_leads 142 = .ok (.istore 6, 2) := by decide +kernel
theorem dX11_leads_144 : decode cX11_leads 144 = .ok (.aload_n 0, 1) := by decide +kernel
theorem dX11_leads_145 : decode cX11_leads 145 = .ok (.dup, 1) := by decide +kernel
theorem dX11_leads_146 : decode cX11_leads 146 = .ok (.getfield 204, 3) := by decide +kernel
theorem dX11_leads_149 : decode cX11_leads 149 = .ok (.iload 6, 2) := by decide +kernel
theorem dX11_leads_151 : decode cX11_leads 151 = .ok (.isub, 1) := by decide +kernel
theorem dX11_leads_152 : decode cX11_leads 152 = .ok (.putfield 204, 3) := by decide +kernel
theorem dX11_leads_155 : decode cX11_leads 155 = .ok (.aload_n 0, 1) := by decide +kernel
theorem dX11_leads_156 : decode cX11_leads 156 = .ok (.getfield 7, 3) := by decide +kernel
theorem dX11_leads_159 : decode cX11_leads 159 = .ok (.sipush 150, 3) := by decide +kernel
theorem dX11_leads_162 : decode cX11_leads 162 = .ok (.iconst 4, 1) := by decide +kernel
theorem dX11_leads_163 : decode cX11_leads 163 = .ok (.iload 4, 2) := by decide +kernel
theorem dX11_leads_165 : decode cX11_leads 165 = .ok (.imul, 1) := by decide +kernel
theorem dX11_leads_166 : decode cX11_leads 166 = .ok (.iadd, 1) := by decide +kernel
theorem dX11_leads_167 : decode cX11_leads 167 = .ok (.iconst 3, 1) := by decide +kernel
theorem dX11_leads_168 : decode cX11_leads 168 = .ok (.iadd, 1) := by decide +kernel
theorem dX11_leads_169 : decode cX11_leads 169 = .ok (.dup2, 1) := by decide +kernel
theorem dX11_leads_170 : decode cX11_leads 170 = .ok (.iaload, 1) := by decide +kernel
theorem dX11_leads_171 : decode cX11_leads 171 = .ok (.iload_n 3, 1) := by decide +kernel
theorem dX11_leads_172 : decode cX11_leads 172 = .ok (.ifCond .eq 8, 3) := by decide +kernel
theorem dX11_leads_175 : decode cX11_leads 175 = .ok (.iload 6, 2) := by decide +kernel
theorem dX11_leads_177 : decode cX11_leads 177 = .ok (.goto 4, 3) := by decide +kernel
theorem dX11_leads_180 : decode cX11_leads 180 = .ok (.iconst 0, 1) := by decide +kernel
theorem dX11_leads_181 : decode cX11_leads 181 = .ok (.isub, 1) := by decide +kernel
theorem dX11_leads_182 : decode cX11_leads 182 = .ok (.iastore, 1) := by decide +kernel
theorem dX11_leads_183 : decode cX11_leads 183 = .ok (.goto 66, 3) := by decide +kernel
theorem dX11_leads_186 : decode cX11_leads 186 = .ok (.aload_n 0, 1) := by decide +kernel
theorem dX11_leads_187 : decode cX11_leads 187 = .ok (.dup, 1) := by decide +kernel
theorem dX11_leads_188 : decode cX11_leads 188 = .ok (.getfield 204, 3) := by decide +kernel
theorem dX11_leads_191 : decode cX11_leads 191 = .ok (.aload_n 0, 1) := by decide +kernel
theorem dX11_leads_192 : decode cX11_leads 192 = .ok (.getfield 204, 3) := by decide +kernel
theorem dX11_leads_195 : decode cX11_leads 195 = .ok (.iconst 2, 1) := by decide +kernel
theorem dX11_leads_196 : decode cX11_leads 196 = .ok (.idiv, 1) := by decide +kernel
theorem dX11_leads_197 : decode cX11_leads 197 = .ok (.isub, 1) := by decide +kernel
theorem dX11_leads_198 : decode cX11_leads 198 = .ok (.putfield 204, 3) := by decide +kernel
theorem dX11_leads_201 : decode cX11_leads 201 = .ok (.goto 48, 3) := by decide +kernel
theorem dX11_leads_204 : decode cX11_leads 204 = .ok (.aload_n 0, 1) := by decide +kernel
theorem dX11_leads_205 : decode cX11_leads 205 = .ok (.iconst 2, 1) := by decide +kernel
theorem dX11_leads_206 : decode cX11_leads 206 = .ok (.aload_n 0, 1) := by decide +kernel
theorem dX11_leads_207 : decode cX11_leads 207 = .ok (.getfield 204, 3) := by decide +kernel
theorem dX11_leads_210 : decode cX11_leads 210 = .ok (.imul, 1) := by decide +kernel
theorem dX11_leads_211 : decode cX11_leads 211 = .ok (.sipush 999, 3) := by decide +kernel
theorem dX11_leads_214 : decode cX11_leads 214 = .ok (.if_icmp .le 9, 3) := by decide +kernel
theorem dX11_leads_217 : decode cX11_leads 217 = .ok (.sipush 999, 3) := by decide +kernel
theorem dX11_leads_220 : decode cX11_leads 220 = .ok (.goto 9, 3) := by decide +kernel
theorem dX11_leads_223 : decode cX11_leads 223 = .ok (.iconst 2, 1) := by decide +kernel
theorem dX11_leads_224 : decode cX11_leads 224 = .ok (.aload_n 0, 1) := by decide +kernel
theorem dX11_leads_225 : decode cX11_leads 225 = .ok (.getfield 204, 3) := by decide +kernel
theorem dX11_leads_228 : decode cX11_leads 228 = .ok (.imul, 1) := by decide +kernel
theorem dX11_leads_229 : decode cX11_leads 229 = .ok (.putfield 204, 3) := by decide +kernel
theorem dX11_leads_232 : decode cX11_leads 232 = .ok (.goto 17, 3) := by decide +kernel
theorem dX11_leads_235 : decode cX11_leads 235 = .ok (.aload_n 0, 1) := by decide +kernel
theorem dX11_leads_236 : decode cX11_leads 236 = .ok (.iload 5, 2) := by decide +kernel
theorem dX11_leads_238 : decode cX11_leads 238 = .ok (.putfield 201, 3) := by decide +kernel
theorem dX11_leads_241 : decode cX11_leads 241 = .ok (.goto 8, 3) := by decide +kernel
theorem dX11_leads_244 : decode cX11_leads 244 = .ok (.aload_n 0, 1) := by decide +kernel
theorem dX11_leads_245 : decode cX11_leads 245 = .ok (.iconst 1, 1) := by decide +kernel
theorem dX11_leads_246 : decode cX11_leads 246 = .ok (.putfield 210, 3) := by decide +kernel
theorem dX11_leads_249 : decode cX11_leads 249 = .ok (.aload_n 0, 1) := by decide +kernel
theorem dX11_leads_250 : decode cX11_leads 250 = .ok (.invokevirtual 213, 3) := by decide +kernel
theorem dX11_leads_253 : decode cX11_leads 253 = .ok (.istore 4, 2) := by decide +kernel
theorem dX11_leads_255 : decode cX11_leads 255 = .ok (.goto (-219), 3) := by decide +kernel
theorem dX11_leads_258 : decode cX11_leads 258 = .ok (.return_, 1) := by decide +kernel
theorem dX11_wounds_0 : decode cX11_wounds 0 = .ok (.iconst 0, 1) := by decide +kernel
theorem dX11_wounds_1 : decode cX11_wounds 1 = .ok (.bipush 10, 2) := by decide +kernel
theorem dX11_wounds_3 : decode cX11_wounds 3 = .ok (.iload_n 1, 1) := by decide +kernel
theorem dX11_wounds_4 : decode cX11_wounds 4 = .ok (.imul, 1) := by decide +kernel
theorem dX11_wounds_5 : decode cX11_wounds 5 = .ok (.iadd, 1) := by decide +kernel
theorem dX11_wounds_6 : decode cX11_wounds 6 = .ok (.iconst 4, 1) := by decide +kernel
theorem dX11_wounds_7 : decode cX11_wounds 7 = .ok (.iadd, 1) := by decide +kernel
theorem dX11_wounds_8 : decode cX11_wounds 8 = .ok (.istore_n 3, 1) := by decide +kernel
theorem dX11_wounds_9 : decode cX11_wounds 9 = .ok (.aload_n 0, 1) := by decide +kernel
theorem dX11_wounds_10 : decode cX11_wounds 10 = .ok (.getfield 7, 3) := by decide +kernel
theorem dX11_wounds_13 : decode cX11_wounds 13 = .ok (.iload_n 3, 1) := by decide +kernel
theorem dX11_wounds_14 : decode cX11_wounds 14 = .ok (.aload_n 0, 1) := by decide +kernel
theorem dX11_wounds_15 : decode cX11_wounds 15 = .ok (.getfield 7, 3) := by decide +kernel
theorem dX11_wounds_18 : decode cX11_wounds 18 = .ok (.iload_n 3, 1) := by decide +kernel
theorem dX11_wounds_19 : decode cX11_wounds 19 = .ok (.iaload, 1) := by decide +kernel
theorem dX11_wounds_20 : decode cX11_wounds 20 = .ok (.iload_n 2, 1) := by decide +kernel
theorem dX11_wounds_21 : decode cX11_wounds 21 = .ok (.iadd, 1) := by decide +kernel
theorem dX11_wounds_22 : decode cX11_wounds 22 = .ok (.ifCond .ge 7, 3) := by decide +kernel
theorem dX11_wounds_25 : decode cX11_wounds 25 = .ok (.iconst 0, 1) := by decide +kernel
theorem dX11_wounds_26 : decode cX11_wounds 26 = .ok (.goto 31, 3) := by decide +kernel
theorem dX11_wounds_29 : decode cX11_wounds 29 = .ok (.aload_n 0, 1) := by decide +kernel
theorem dX11_wounds_30 : decode cX11_wounds 30 = .ok (.getfield 7, 3) := by decide +kernel
theorem dX11_wounds_33 : decode cX11_wounds 33 = .ok (.iload_n 3, 1) := by decide +kernel
theorem dX11_wounds_34 : decode cX11_wounds 34 = .ok (.iaload, 1) := by decide +kernel
theorem dX11_wounds_35 : decode cX11_wounds 35 = .ok (.iload_n 2, 1) := by decide +kernel
theorem dX11_wounds_36 : decode cX11_wounds 36 = .ok (.iadd, 1) := by decide +kernel
theorem dX11_wounds_37 : decode cX11_wounds 37 = .ok (.sipush 999, 3) := by decide +kernel
theorem dX11_wounds_40 : decode cX11_wounds 40 = .ok (.if_icmp .le 9, 3) := by decide +kernel
theorem dX11_wounds_43 : decode cX11_wounds 43 = .ok (.sipush 999, 3) := by decide +kernel
theorem dX11_wounds_46 : decode cX11_wounds 46 = .ok (.goto 11, 3) := by decide +kernel
theorem dX11_wounds_49 : decode cX11_wounds 49 = .ok (.aload_n 0, 1) := by decide +kernel
theorem dX11_wounds_50 : decode cX11_wounds 50 = .ok (.getfield 7, 3) := by decide +kernel
theorem dX11_wounds_53 : decode cX11_wounds 53 = .ok (.iload_n 3, 1) := by decide +kernel
theorem dX11_wounds_54 : decode cX11_wounds 54 = .ok (.iaload, 1) := by decide +kernel
theorem dX11_wounds_55 : decode cX11_wounds 55 = .ok (.iload_n 2, 1) := by decide +kernel
theorem dX11_wounds_56 : decode cX11_wounds 56 = .ok (.iadd, 1) := by decide +kernel
theorem dX11_wounds_57 : decode cX11_wounds 57 = .ok (.iastore, 1) := by decide +kernel
theorem dX11_wounds_58 : decode cX11_wounds 58 = .ok (.return_, 1) := by decide +kernel
theorem dX11_hurts_0 : decode cX11_hurts 0 = .ok (.aload_n 0, 1) := by decide +kernel
theorem dX11_hurts_1 : decode cX11_hurts 1 = .ok (.iload_n 1, 1) := by decide +kernel
theorem dX11_hurts_2 : decode cX11_hurts 2 = .ok (.iload_n 2, 1) := by decide +kernel
theorem dX11_hurts_3 : decode cX11_hurts 3 = .ok (.iconst 1, 1) := by decide +kernel
theorem dX11_hurts_4 : decode cX11_hurts 4 = .ok (.invokevirtual 217, 3) := by decide +kernel
theorem dX11_hurts_7 : decode cX11_hurts 7 = .ok (.aload_n 0, 1) := by decide +kernel
theorem dX11_hurts_8 : decode cX11_hurts 8 = .ok (.getfield 210, 3) := by decide +kernel
theorem dX11_hurts_11 : decode cX11_hurts 11 = .ok (.ifCond .eq 19, 3) := by decide +kernel
theorem dX11_hurts_14 : decode cX11_hurts 14 = .ok (.aload_n 0, 1) := by decide +kernel
theorem dX11_hurts_15 : decode cX11_hurts 15 = .ok (.aload_n 0, 1) := by decide +kernel
theorem dX11_hurts_16 : decode cX11_hurts 16 = .ok (.getfield 201, 3) := by decide +kernel
theorem dX11_hurts_19 : decode cX11_hurts 19 = .ok (.aload_n 0, 1) := by decide +kernel
theorem dX11_hurts_20 : decode cX11_hurts 20 = .ok (.getfield 204, 3) := by decide +kernel
theorem dX11_hurts_23 : decode cX11_hurts 23 = .ok (.ineg, 1) := by decide +kernel
theorem dX11_hurts_24 : decode cX11_hurts 24 = .ok (.invokevirtual 221, 3) := by decide +kernel
theorem dX11_hurts_27 : decode cX11_hurts 27 = .ok (.goto 22, 3) := by decide +kernel
theorem dX11_hurts_30 : decode cX11_hurts 30 = .ok (.aload_n 0, 1) := by decide +kernel
theorem dX11_hurts_31 : decode cX11_hurts 31 = .ok (.getfield 204, 3) := by decide +kernel
theorem dX11_hurts_34 : decode cX11_hurts 34 = .ok (.ifCond .le 15, 3) := by decide +kernel
theorem dX11_hurts_37 : decode cX11_hurts 37 = .ok (.aload_n 0, 1) := by decide +kernel
theorem dX11_hurts_38 : decode cX11_hurts 38 = .ok (.aload_n 0, 1) := by decide +kernel
theorem dX11_hurts_39 : decode cX11_hurts 39 = .ok (.getfield 201, 3) := by decide +kernel
theorem dX11_hurts_42 : decode cX11_hurts 42 = .ok (.aload_n 0, 1) := by decide +kernel
theorem dX11_hurts_43 : decode cX11_hurts 43 = .ok (.getfield 204, 3) := by decide +kernel
theorem dX11_hurts_46 : decode cX11_hurts 46 = .ok (.invokevirtual 221, 3) := by decide +kernel
theorem dX11_hurts_49 : decode cX11_hurts 49 = .ok (.aload_n 0, 1) := by decide +kernel
theorem dX11_hurts_50 : decode cX11_hurts 50 = .ok (.getfield 7, 3) := by decide +kernel
theorem dX11_hurts_53 : decode cX11_hurts 53 = .ok (.sipush 240, 3) := by decide +kernel
theorem dX11_hurts_56 : decode cX11_hurts 56 = .ok (.iaload, 1) := by decide +kernel
theorem dX11_hurts_57 : decode cX11_hurts 57 = .ok (.iconst 1, 1) := by decide +kernel
theorem dX11_hurts_58 : decode cX11_hurts 58 = .ok (.isub, 1) := by decide +kernel
theorem dX11_hurts_59 : decode cX11_hurts 59 = .ok (.istore_n 3, 1) := by decide +kernel
theorem dX11_hurts_60 : decode cX11_hurts 60 = .ok (.iload_n 3, 1) := by decide +kernel
theorem dX11_hurts_61 : decode cX11_hurts 61 = .ok (.ifCond .lt 39, 3) := by decide +kernel
theorem dX11_hurts_64 : decode cX11_hurts 64 = .ok (.aload_n 0, 1) := by decide +kernel
theorem dX11_hurts_65 : decode cX11_hurts 65 = .ok (.iload_n 3, 1) := by decide +kernel
theorem dX11_hurts_66 : decode cX11_hurts 66 = .ok (.iconst 0, 1) := by decide +kernel
theorem dX11_hurts_67 : decode cX11_hurts 67 = .ok (.invokevirtual 192, 3) := by decide +kernel
theorem dX11_hurts_70 : decode cX11_hurts 70 = .ok (.ifCond .ne 24, 3) := by decide +kernel
theorem dX11_hurts_73 : decode cX11_hurts 73 = .ok (.aload_n 0, 1) := by decide +kernel
theorem dX11_hurts_74 : decode cX11_hurts 74 = .ok (.iload_n 3, 1) := by decide +kernel
theorem dX11_hurts_75 : decode cX11_hurts 75 = .ok (.iconst 3, 1) := by decide +kernel
theorem dX11_hurts_76 : decode cX11_hurts 76 = .ok (.invokevirtual 192, 3) := by decide +kernel
theorem dX11_hurts_79 : decode cX11_hurts 79 = .ok (.ifCond .ne 15, 3) := by decide +kernel
theorem dX11_hurts_82 : decode cX11_hurts 82 = .ok (.aload_n 0, 1) := by decide +kernel
theorem dX11_hurts_83 : decode cX11_hurts 83 = .ok (.sipush 150, 3) := by decide +kernel
theorem dX11_hurts_86 : decode cX11_hurts 86 = .ok (.iconst 4, 1) := by decide +kernel
theorem dX11_hurts_87 : decode cX11_hurts 87 = .ok (.sipush 240, 3) := by decide +kernel
theorem dX11_hurts_90 : decode cX11_hurts 90 = .ok (.iload_n 3, 1) := by decide +kernel
theorem dX11_hurts_91 : decode cX11_hurts 91 = .ok (.invokevirtual 186, 3) := by decide +kernel
theorem dX11_hurts_94 : decode cX11_hurts 94 = .ok (.iinc 3 (-1), 3) := by decide +kernel
theorem dX11_hurts_97 : decode cX11_hurts 97 = .ok (.goto (-37), 3) := by decide +kernel
theorem dX11_hurts_100 : decode cX11_hurts 100 = .ok (.aload_n 0, 1) := by decide +kernel
theorem dX11_hurts_101 : decode cX11_hurts 101 = .ok (.getfield 204, 3) := by decide +kernel
theorem dX11_hurts_104 : decode cX11_hurts 104 = .ok (.ifCond .le 21, 3) := by decide +kernel
theorem dX11_hurts_107 : decode cX11_hurts 107 = .ok (.aload_n 0, 1) := by decide +kernel
theorem dX11_hurts_108 : decode cX11_hurts 108 = .ok (.getfield 210, 3) := by decide +kernel
theorem dX11_hurts_111 : decode cX11_hurts 111 = .ok (.ifCond .ne 14, 3) := by decide +kernel
theorem dX11_hurts_114 : decode cX11_hurts 114 = .ok (.aload_n 0, 1) := by decide +kernel
theorem dX11_hurts_115 : decode cX11_hurts 115 = .ok (.iconst 0, 1) := by decide +kernel
theorem dX11_hurts_116 : decode cX11_hurts 116 = .ok (.iconst 1, 1) := by decide +kernel
theorem dX11_hurts_117 : decode cX11_hurts 117 = .ok (.aload_n 0, 1) := by decide +kernel
theorem dX11_hurts_118 : decode cX11_hurts 118 = .ok (.getfield 201, 3) := by decide +kernel
theorem dX11_hurts_121 : decode cX11_hurts 121 = .ok (.ishl, 1) := by decide +kernel
theorem dX11_hurts_122 : decode cX11_hurts 122 = .ok (.invokevirtual 149, 3) := by decide +kernel
theorem dX11_hurts_125 : decode cX11_hurts 125 = .ok (.aload_n 0, 1) := by decide +kernel
theorem dX11_hurts_126 : decode cX11_hurts 126 = .ok (.invokevirtual 153, 3) := by decide +kernel
theorem dX11_hurts_129 : decode cX11_hurts 129 = .ok (.return_, 1) := by decide +kernel
theorem dX11_aim_0 : decode cX11_aim 0 = .ok (.aload_n 0, 1) := by decide +kernel
theorem dX11_aim_1 : decode cX11_aim 1 = .ok (.iload_n 1, 1) := by decide +kernel
theorem dX11_aim_2 : decode cX11_aim 2 = .ok (.invokevirtual 88, 3) := by decide +kernel
theorem dX11_aim_5 : decode cX11_aim 5 = .ok (.ifCond .eq 22, 3) := by decide +kernel
theorem dX11_aim_8 : decode cX11_aim 8 = .ok (.iload_n 2, 1) := by decide +kernel
theorem dX11_aim_9 : decode cX11_aim 9 = .ok (.iconst 1, 1) := by decide +kernel
theorem dX11_aim_10 : decode cX11_aim 10 = .ok (.bipush 99, 2) := by decide +kernel
theorem dX11_aim_12 : decode cX11_aim 12 = .ok (.invokestatic 84, 3) := by decide +kernel
theorem dX11_aim_15 : decode cX11_aim 15 = .ok (.ifCond .eq 12, 3) := by decide +kernel
theorem dX11_aim_18 : decode cX11_aim 18 = .ok (.iload_n 3, 1) := by decide +kernel
theorem dX11_aim_19 : decode cX11_aim 19 = .ok (.iconst 0, 1) := by decide +kernel
theorem dX11_aim_20 : decode cX11_aim 20 = .ok (.iconst 2, 1) := by decide +kernel
theorem dX11_aim_21 : decode cX11_aim 21 = .ok (.invokestatic 84, 3) := by decide +kernel
theorem dX11_aim_24 : decode cX11_aim 24 = .ok (.ifCond .ne 6, 3) := by decide +kernel
theorem dX11_aim_27 : decode cX11_aim 27 = .ok (.bipush (-2), 2) := by decide +kernel
theorem dX11_aim_29 : decode cX11_aim 29 = .ok (.ireturn, 1) := by decide +kernel
theorem dX11_aim_30 : decode cX11_aim 30 = .ok (.aload_n 0, 1) := by decide +kernel
theorem dX11_aim_31 : decode cX11_aim 31 = .ok (.iload_n 1, 1) := by decide +kernel
theorem dX11_aim_32 : decode cX11_aim 32 = .ok (.invokevirtual 100, 3) := by decide +kernel
theorem dX11_aim_35 : decode cX11_aim 35 = .ok (.ifCond .ne 6, 3) := by decide +kernel
theorem dX11_aim_38 : decode cX11_aim 38 = .ok (.bipush (-3), 2) := by decide +kernel
theorem dX11_aim_40 : decode cX11_aim 40 = .ok (.ireturn, 1) := by decide +kernel
theorem dX11_aim_41 : decode cX11_aim 41 = .ok (.aload_n 0, 1) := by decide +kernel
theorem dX11_aim_42 : decode cX11_aim 42 = .ok (.iload_n 1, 1) := by decide +kernel
theorem dX11_aim_43 : decode cX11_aim 43 = .ok (.iload_n 2, 1) := by decide +kernel
theorem dX11_aim_44 : decode cX11_aim 44 = .ok (.iconst 0, 1) := by decide +kernel
theorem dX11_aim_45 : decode cX11_aim 45 = .ok (.invokevirtual 217, 3) := by decide +kernel
theorem dX11_aim_48 : decode cX11_aim 48 = .ok (.iload_n 3, 1) := by decide +kernel
theorem dX11_aim_49 : decode cX11_aim 49 = .ok (.ifCond .ne 10, 3) := by decide +kernel
theorem dX11_aim_52 : decode cX11_aim 52 = .ok (.aload_n 0, 1) := by decide +kernel
theorem dX11_aim_53 : decode cX11_aim 53 = .ok (.getfield 201, 3) := by decide +kernel
theorem dX11_aim_56 : decode cX11_aim 56 = .ok (.goto 30, 3) := by decide +kernel
theorem dX11_aim_59 : decode cX11_aim 59 = .ok (.iload_n 3, 1) := by decide +kernel
theorem dX11_aim_60 : decode cX11_aim 60 = .ok (.iconst 2, 1) := by decide +kernel
theorem dX11_aim_61 : decode cX11_aim 61 = .ok (.if_icmp .ne 10, 3) := by decide +kernel
theorem dX11_aim_64 : decode cX11_aim 64 = .ok (.aload_n 0, 1) := by decide +kernel
theorem dX11_aim_65 : decode cX11_aim 65 = .ok (.getfield 207, 3) := by decide +kernel
theorem dX11_aim_68 : decode cX11_aim 68 = .ok (.goto 18, 3) := by decide +kernel
theorem dX11_aim_71 : decode cX11_aim 71 = .ok (.aload_n 0, 1) := by decide +kernel
theorem dX11_aim_72 : decode cX11_aim 72 = .ok (.getfield 210, 3) := by decide +kernel
theorem dX11_aim_75 : decode cX11_aim 75 = .ok (.ifCond .eq 7, 3) := by decide +kernel
theorem dX11_aim_78 : decode cX11_aim 78 = .ok (.iconst 0, 1) := by decide +kernel
theorem dX11_aim_79 : decode cX11_aim 79 = .ok (.goto 7, 3) := by decide +kernel
theorem dX11_aim_82 : decode cX11_aim 82 = .ok (.aload_n 0, 1) := by decide +kernel
theorem dX11_aim_83 : decode cX11_aim 83 = .ok (.getfield 204, 3) := by decide +kernel
theorem dX11_aim_86 : decode cX11_aim 86 = .ok (.ireturn, 1) := by decide +kernel
theorem dX11_acts_0 : decode cX11_acts 0 = .ok (.aload_n 0, 1) := by decide +kernel
theorem dX11_acts_1 : decode cX11_acts 1 = .ok (.iload_n 1, 1) := by decide +kernel
theorem dX11_acts_2 : decode cX11_acts 2 = .ok (.iconst 3, 1) := by decide +kernel
theorem dX11_acts_3 : decode cX11_acts 3 = .ok (.invokevirtual 139, 3) := by decide +kernel
theorem dX11_acts_6 : decode cX11_acts 6 = .ok (.iconst (-1), 1) := by decide +kernel
theorem dX11_acts_7 : decode cX11_acts 7 = .ok (.if_icmp .ne 7, 3) := by decide +kernel
theorem dX11_acts_10 : decode cX11_acts 10 = .ok (.iload_n 2, 1) := by decide +kernel
theorem dX11_acts_11 : decode cX11_acts 11 = .ok (.goto 9, 3) := by decide +kernel
theorem dX11_acts_14 : decode cX11_acts 14 = .ok (.aload_n 0, 1) := by decide +kernel
theorem dX11_acts_15 : decode cX11_acts 15 = .ok (.iload_n 1, 1) := by decide +kernel
theorem dX11_acts_16 : decode cX11_acts 16 = .ok (.iconst 3, 1) := by decide +kernel
theorem dX11_acts_17 : decode cX11_acts 17 = .ok (.invokevirtual 139, 3) := by decide +kernel
theorem dX11_acts_20 : decode cX11_acts 20 = .ok (.istore_n 3, 1) := by decide +kernel
theorem dX11_acts_21 : decode cX11_acts 21 = .ok (.aload_n 0, 1) := by decide +kernel
theorem dX11_acts_22 : decode cX11_acts 22 = .ok (.iload_n 1, 1) := by decide +kernel
theorem dX11_acts_23 : decode cX11_acts 23 = .ok (.iconst 4, 1) := by decide +kernel
theorem dX11_acts_24 : decode cX11_acts 24 = .ok (.invokevirtual 139, 3) := by decide +kernel
theorem dX11_acts_27 : decode cX11_acts 27 = .ok (.istore 4, 2) := by decide +kernel
theorem dX11_acts_29 : decode cX11_acts 29 = .ok (.iload 4, 2) := by decide +kernel
theorem dX11_acts_31 : decode cX11_acts 31 = .ok (.ifCond .ne 21, 3) := by decide +kernel
theorem dX11_acts_34 : decode cX11_acts 34 = .ok (.iload_n 2, 1) := by decide +kernel
theorem dX11_acts_35 : decode cX11_acts 35 = .ok (.iconst (-1), 1) := by decide +kernel
theorem dX11_acts_36 : decode cX11_acts 36 = .ok (.if_icmp .eq 16, 3) := by decide +kernel
theorem dX11_acts_39 : decode cX11_acts 39 = .ok (.aload_n 0, 1) := by decide +kernel
theorem dX11_acts_40 : decode cX11_acts 40 = .ok (.iconst 5, 1) := by decide +kernel
theorem dX11_acts_41 : decode cX11_acts 41 = .ok (.invokevirtual 145, 3) := by decide +kernel
theorem dX11_acts_44 : decode cX11_acts 44 = .ok (.aload_n 0, 1) := by decide +kernel
theorem dX11_acts_45 : decode cX11_acts 45 = .ok (.iload_n 2, 1) := by decide +kernel
theorem dX11_acts_46 : decode cX11_acts 46 = .ok (.iconst 2, 1) := by decide +kernel
theorem dX11_acts_47 : decode cX11_acts 47 = .ok (.invokevirtual 170, 3) := by decide +kernel
theorem dX11_acts_50 : decode cX11_acts 50 = .ok (.istore 4, 2) := by decide +kernel
theorem dX11_acts_52 : decode cX11_acts 52 = .ok (.iload 4, 2) := by decide +kernel
theorem dX11_acts_54 : decode cX11_acts 54 = .ok (.ifCond .le 11, 3) := by decide +kernel
theorem dX11_acts_57 : decode cX11_acts 57 = .ok (.aload_n 0, 1) := by decide +kernel
theorem dX11_acts_58 : decode cX11_acts 58 = .ok (.iload_n 3, 1) := by decide +kernel
theorem dX11_acts_59 : decode cX11_acts 59 = .ok (.invokevirtual 100, 3) := by decide +kernel
theorem dX11_acts_62 : decode cX11_acts 62 = .ok (.ifCond .ne 4, 3) := by decide +kernel
theorem dX11_acts_65 : decode cX11_acts 65 = .ok (.return_, 1) := by decide +kernel
theorem dX11_acts_66 : decode cX11_acts 66 = .ok (.aload_n 0, 1) := by decide +kernel
theorem dX11_acts_67 : decode cX11_acts 67 = .ok (.iload_n 1, 1) := by decide +kernel
theorem dX11_acts_68 : decode cX11_acts 68 = .ok (.iconst 2, 1) := by decide +kernel
theorem dX11_acts_69 : decode cX11_acts 69 = .ok (.invokevirtual 139, 3) := by decide +kernel
theorem dX11_acts_72 : decode cX11_acts 72 = .ok (.lookupswitch 49 #[(0, 28), (1, 38)], 28) := by decide +kernel
theorem dX11_acts_100 : decode cX11_acts 100 = .ok (.aload_n 0, 1) := by decide +kernel
theorem dX11_acts_101 : decode cX11_acts 101 = .ok (.iload_n 3, 1) := by decide +kernel
theorem dX11_acts_102 : decode cX11_acts 102 = .ok (.iload 4, 2) := by decide +kernel
theorem dX11_acts_104 : decode cX11_acts 104 = .ok (.invokevirtual 224, 3) := by decide +kernel
theorem dX11_acts_107 : decode cX11_acts 107 = .ok (.goto 73, 3) := by decide +kernel
theorem dX11_acts_110 : decode cX11_acts 110 = .ok (.aload_n 0, 1) := by decide +kernel
theorem dX11_acts_111 : decode cX11_acts 111 = .ok (.iload_n 3, 1) := by decide +kernel
theorem dX11_acts_112 : decode cX11_acts 112 = .ok (.iload 4, 2) := by decide +kernel
theorem dX11_acts_114 : decode cX11_acts 114 = .ok (.ineg, 1) := by decide +kernel
theorem dX11_acts_115 : decode cX11_acts 115 = .ok (.invokevirtual 221, 3) := by decide +kernel
theorem dX11_acts_118 : decode cX11_acts 118 = .ok (.goto 62, 3) := by decide +kernel
theorem dX11_acts_121 : decode cX11_acts 121 = .ok (.iconst 2, 1) := by decide +kernel
theorem dX11_acts_122 : decode cX11_acts 122 = .ok (.istore 5, 2) := by decide +kernel
theorem dX11_acts_124 : decode cX11_acts 124 = .ok (.iload 5, 2) := by decide +kernel
theorem dX11_acts_126 : decode cX11_acts 126 = .ok (.iconst 4, 1) := by decide +kernel
theorem dX11_acts_127 : decode cX11_acts 127 = .ok (.if_icmp .ge 53, 3) := by decide +kernel
theorem dX11_acts_130 : decode cX11_acts 130 = .ok (.aload_n 0, 1) := by decide +kernel
theorem dX11_acts_131 : decode cX11_acts 131 = .ok (.getfield 7, 3) := by decide +kernel
theorem dX11_acts_134 : decode cX11_acts 134 = .ok (.iconst 0, 1) := by decide +kernel
theorem dX11_acts_135 : decode cX11_acts 135 = .ok (.bipush 10, 2) := by decide +kernel
theorem dX11_acts_137 : decode cX11_acts 137 = .ok (.iload_n 3, 1) := by decide +kernel
theorem dX11_acts_138 : decode cX11_acts 138 = .ok (.imul, 1) := by decide +kernel
theorem dX11_acts_139 : decode cX11_acts 139 = .ok (.iadd, 1) := by decide +kernel
theorem dX11_acts_140 : decode cX11_acts 140 = .ok (.iload 5, 2) := by decide +kernel
theorem dX11_acts_142 : decode cX11_acts 142 = .ok (.iadd, 1) := by decide +kernel
theorem dX11_acts_143 : decode cX11_acts 143 = .ok (.aload_n 0, 1) := by decide +kernel
theorem dX11_acts_144 : decode cX11_acts 144 = .ok (.iload_n 3, 1) := by decide +kernel
theorem dX11_acts_145 : decode cX11_acts 145 = .ok (.iload 5, 2) := by decide +kernel
theorem dX11_acts_147 : decode cX11_acts 147 = .ok (.invokevirtual 92, 3) := by decide +kernel
theorem dX11_acts_150 : decode cX11_acts 150 = .ok (.iload 4, 2) := by decide +kernel
theorem dX11_acts_152 : decode cX11_acts 152 = .ok (.iadd, 1) := by decide +kernel
theorem dX11_acts_153 : decode cX11_acts 153 = .ok (.bipush 99, 2) := by decide +kernel
theorem dX11_acts_155 : decode cX11_acts 155 = .ok (.if_icmp .le 8, 3) := by decide +kernel
theorem dX11_acts_158 : decode cX11_acts 158 = .ok (.bipush 99, 2) := by decide +kernel
theorem dX11_acts_160 : decode cX11_acts 160 = .ok (.goto 13, 3) := by decide +kernel
theorem dX11_acts_163 : decode cX11_acts 163 = .ok (.aload_n 0, 1) := by decide +kernel
theorem dX11_acts_164 : decode cX11_acts 164 = .ok (.iload_n 3, 1) := by decide +kernel
theorem dX11_acts_165 : decode cX11_acts 165 = .ok (.iload 5, 2) := by decide +kernel
theorem dX11_acts_167 : decode cX11_acts 167 = .ok (.invokevirtual 92, 3) := by decide +kernel
theorem dX11_acts_170 : decode cX11_acts 170 = .ok (.iload 4, 2) := by decide +kernel
theorem dX11_acts_172 : decode cX11_acts 172 = .ok (.iadd, 1) := by decide +kernel
theorem dX11_acts_173 : decode cX11_acts 173 = .ok (.iastore, 1) := by decide +kernel
theorem dX11_acts_174 : decode cX11_acts 174 = .ok (.iinc 5 1, 3) := by decide +kernel
theorem dX11_acts_177 : decode cX11_acts 177 = .ok (.goto (-53), 3) := by decide +kernel
theorem dX11_acts_180 : decode cX11_acts 180 = .ok (.return_, 1) := by decide +kernel
theorem dX11_goesThrough_0 : decode cX11_goesThrough 0 = .ok (.aload_n 0, 1) := by decide +kernel
theorem dX11_goesThrough_1 : decode cX11_goesThrough 1 = .ok (.getfield 142, 3) := by decide +kernel
theorem dX11_goesThrough_4 : decode cX11_goesThrough 4 = .ok (.ifCond .le 137, 3) := by decide +kernel
theorem dX11_goesThrough_7 : decode cX11_goesThrough 7 = .ok (.aload_n 0, 1) := by decide +kernel
theorem dX11_goesThrough_8 : decode cX11_goesThrough 8 = .ok (.getfield 227, 3) := by decide +kernel
theorem dX11_goesThrough_11 : decode cX11_goesThrough 11 = .ok (.bipush 40, 2) := by decide +kernel
theorem dX11_goesThrough_13 : decode cX11_goesThrough 13 = .ok (.if_icmp .ne 53, 3) := by decide +kernel
theorem dX11_goesThrough_16 : decode cX11_goesThrough 16 = .ok (.aload_n 0, 1) := by decide +kernel
theorem dX11_goesThrough_17 : decode cX11_goesThrough 17 = .ok (.getfield 16, 3) := by decide +kernel
theorem dX11_goesThrough_20 : decode cX11_goesThrough 20 = .ok (.aload_n 0, 1) := by decide +kernel
theorem dX11_goesThrough_21 : decode cX11_goesThrough 21 = .ok (.getfield 7, 3) := by decide +kernel
theorem dX11_goesThrough_24 : decode cX11_goesThrough 24 = .ok (.invokestatic 230, 3) := by decide +kernel
theorem dX11_goesThrough_27 : decode cX11_goesThrough 27 = .ok (.aload_n 0, 1) := by decide +kernel
theorem dX11_goesThrough_28 : decode cX11_goesThrough 28 = .ok (.aload_n 0, 1) := by decide +kernel
theorem dX11_goesThrough_29 : decode cX11_goesThrough 29 = .ok (.getfield 227, 3) := by decide +kernel
theorem dX11_goesThrough_32 : decode cX11_goesThrough 32 = .ok (.putfield 156, 3) := by decide +kernel
theorem dX11_goesThrough_35 : decode cX11_goesThrough 35 = .ok (.iconst 0, 1) := by decide +kernel
theorem dX11_goesThrough_36 : decode cX11_goesThrough 36 = .ok (.istore_n 1, 1) := by decide +kernel
theorem dX11_goesThrough_37 : decode cX11_goesThrough 37 = .ok (.iload_n 1, 1) := by decide +kernel
theorem dX11_goesThrough_38 : decode cX11_goesThrough 38 = .ok (.aload_n 0, 1) := by decide +kernel
theorem dX11_goesThrough_39 : decode cX11_goesThrough 39 = .ok (.getfield 227, 3) := by decide +kernel
theorem dX11_goesThrough_42 : decode cX11_goesThrough 42 = .ok (.if_icmp .ge 21, 3) := by decide +kernel
theorem dX11_goesThrough_45 : decode cX11_goesThrough 45 = .ok (.aload_n 0, 1) := by decide +kernel
theorem dX11_goesThrough_46 : decode cX11_goesThrough 46 = .ok (.getfield 34, 3) := by decide +kernel
theorem dX11_goesThrough_49 : decode cX11_goesThrough 49 = .ok (.iload_n 1, 1) := by decide +kernel
theorem dX11_goesThrough_50 : decode cX11_goesThrough 50 = .ok (.aload_n 0, 1) := by decide +kernel
theorem dX11_goesThrough_51 : decode cX11_goesThrough 51 = .ok (.getfield 31, 3) := by decide +kernel
theorem dX11_goesThrough_54 : decode cX11_goesThrough 54 = .ok (.iload_n 1, 1) := by decide +kernel
theorem dX11_goesThrough_55 : decode cX11_goesThrough 55 = .ok (.iaload, 1) := by decide +kernel
theorem dX11_goesThrough_56 : decode cX11_goesThrough 56 = .ok (.iastore, 1) := by decide +kernel
theorem dX11_goesThrough_57 : decode cX11_goesThrough 57 = .ok (.iinc 1 1, 3) := by decide +kernel
theorem dX11_goesThrough_60 : decode cX11_goesThrough 60 = .ok (.goto (-23), 3) := by decide +kernel
theorem dX11_goesThrough_63 : decode cX11_goesThrough 63 = .ok (.bipush (-5), 2) := by decide +kernel
theorem dX11_goesThrough_65 : decode cX11_goesThrough 65 = .ok (.ireturn, 1) := by decide +kernel
theorem dX11_goesThrough_66 : decode cX11_goesThrough 66 = .ok (.aload_n 0, 1) := by decide +kernel
theorem dX11_goesThrough_67 : decode cX11_goesThrough 67 = .ok (.dup, 1) := by decide +kernel
theorem dX11_goesThrough_68 : decode cX11_goesThrough 68 = .ok (.getfield 142, 3) := by decide +kernel
theorem dX11_goesThrough_71 : decode cX11_goesThrough 71 = .ok (.iconst 1, 1) := by decide +kernel
theorem dX11_goesThrough_72 : decode cX11_goesThrough 72 = .ok (.isub, 1) := by decide +kernel
theorem dX11_goesThrough_73 : decode cX11_goesThrough 73 = .ok (.putfield 142, 3) := by decide +kernel
theorem dX11_goesThrough_76 : decode cX11_goesThrough 76 = .ok (.aload_n 0, 1) := by decide +kernel
theorem dX11_goesThrough_77 : decode cX11_goesThrough 77 = .ok (.getfield 31, 3) := by decide +kernel
theorem dX11_goesThrough_80 : decode cX11_goesThrough 80 = .ok (.aload_n 0, 1) := by decide +kernel
