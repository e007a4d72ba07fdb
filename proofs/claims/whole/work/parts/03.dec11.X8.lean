theorem dX8_init_0 : decode cX8_init 0 = .ok (.aload_n 0, 1) := by decide +kernel
theorem dX8_init_1 : decode cX8_init 1 = .ok (.invokespecial 3, 3) := by decide +kernel
theorem dX8_init_4 : decode cX8_init 4 = .ok (.aload_n 0, 1) := by decide +kernel
theorem dX8_init_5 : decode cX8_init 5 = .ok (.bipush 8, 2) := by decide +kernel
theorem dX8_init_7 : decode cX8_init 7 = .ok (.anewarray 9, 3) := by decide +kernel
theorem dX8_init_10 : decode cX8_init 10 = .ok (.putfield 11, 3) := by decide +kernel
theorem dX8_init_13 : decode cX8_init 13 = .ok (.aload_n 0, 1) := by decide +kernel
theorem dX8_init_14 : decode cX8_init 14 = .ok (.bipush 10, 2) := by decide +kernel
theorem dX8_init_16 : decode cX8_init 16 = .ok (.anewarray 17, 3) := by decide +kernel
theorem dX8_init_19 : decode cX8_init 19 = .ok (.putfield 19, 3) := by decide +kernel
theorem dX8_init_22 : decode cX8_init 22 = .ok (.aload_n 0, 1) := by decide +kernel
theorem dX8_init_23 : decode cX8_init 23 = .ok (.bipush 8, 2) := by decide +kernel
theorem dX8_init_25 : decode cX8_init 25 = .ok (.anewarray 23, 3) := by decide +kernel
theorem dX8_init_28 : decode cX8_init 28 = .ok (.putfield 25, 3) := by decide +kernel
theorem dX8_init_31 : decode cX8_init 31 = .ok (.aload_n 0, 1) := by decide +kernel
theorem dX8_init_32 : decode cX8_init 32 = .ok (.bipush 8, 2) := by decide +kernel
theorem dX8_init_34 : decode cX8_init 34 = .ok (.anewarray 29, 3) := by decide +kernel
theorem dX8_init_37 : decode cX8_init 37 = .ok (.putfield 31, 3) := by decide +kernel
theorem dX8_init_40 : decode cX8_init 40 = .ok (.aload_n 0, 1) := by decide +kernel
theorem dX8_init_41 : decode cX8_init 41 = .ok (.iconst 2, 1) := by decide +kernel
theorem dX8_init_42 : decode cX8_init 42 = .ok (.newarray .int, 2) := by decide +kernel
theorem dX8_init_44 : decode cX8_init 44 = .ok (.putfield 35, 3) := by decide +kernel
theorem dX8_init_47 : decode cX8_init 47 = .ok (.aload_n 0, 1) := by decide +kernel
theorem dX8_init_48 : decode cX8_init 48 = .ok (.iconst 1, 1) := by decide +kernel
theorem dX8_init_49 : decode cX8_init 49 = .ok (.putfield 39, 3) := by decide +kernel
theorem dX8_init_52 : decode cX8_init 52 = .ok (.iconst 0, 1) := by decide +kernel
theorem dX8_init_53 : decode cX8_init 53 = .ok (.istore_n 1, 1) := by decide +kernel
theorem dX8_init_54 : decode cX8_init 54 = .ok (.iload_n 1, 1) := by decide +kernel
theorem dX8_init_55 : decode cX8_init 55 = .ok (.bipush 8, 2) := by decide +kernel
theorem dX8_init_57 : decode cX8_init 57 = .ok (.if_icmp .ge 22, 3) := by decide +kernel
theorem dX8_init_60 : decode cX8_init 60 = .ok (.aload_n 0, 1) := by decide +kernel
theorem dX8_init_61 : decode cX8_init 61 = .ok (.getfield 11, 3) := by decide +kernel
theorem dX8_init_64 : decode cX8_init 64 = .ok (.iload_n 1, 1) := by decide +kernel
theorem dX8_init_65 : decode cX8_init 65 = .ok (.new 9, 3) := by decide +kernel
theorem dX8_init_68 : decode cX8_init 68 = .ok (.dup, 1) := by decide +kernel
theorem dX8_init_69 : decode cX8_init 69 = .ok (.invokespecial 43, 3) := by decide +kernel
theorem dX8_init_72 : decode cX8_init 72 = .ok (.aastore, 1) := by decide +kernel
theorem dX8_init_73 : decode cX8_init 73 = .ok (.iinc 1 1, 3) := by decide +kernel
theorem dX8_init_76 : decode cX8_init 76 = .ok (.goto (-22), 3) := by decide +kernel
theorem dX8_init_79 : decode cX8_init 79 = .ok (.iconst 0, 1) := by decide +kernel
theorem dX8_init_80 : decode cX8_init 80 = .ok (.istore_n 1, 1) := by decide +kernel
theorem dX8_init_81 : decode cX8_init 81 = .ok (.iload_n 1, 1) := by decide +kernel
theorem dX8_init_82 : decode cX8_init 82 = .ok (.bipush 10, 2) := by decide +kernel
theorem dX8_init_84 : decode cX8_init 84 = .ok (.if_icmp .ge 22, 3) := by decide +kernel
theorem dX8_init_87 : decode cX8_init 87 = .ok (.aload_n 0, 1) := by decide +kernel
theorem dX8_init_88 : decode cX8_init 88 = .ok (.getfield 19, 3) := by decide +kernel
theorem dX8_init_91 : decode cX8_init 91 = .ok (.iload_n 1, 1) := by decide +kernel
theorem dX8_init_92 : decode cX8_init 92 = .ok (.new 17, 3) := by decide +kernel
theorem dX8_init_95 : decode cX8_init 95 = .ok (.dup, 1) := by decide +kernel
theorem dX8_init_96 : decode cX8_init 96 = .ok (.invokespecial 44, 3) := by decide +kernel
theorem dX8_init_99 : decode cX8_init 99 = .ok (.aastore, 1) := by decide +kernel
theorem dX8_init_100 : decode cX8_init 100 = .ok (.iinc 1 1, 3) := by decide +kernel
theorem dX8_init_103 : decode cX8_init 103 = .ok (.goto (-22), 3) := by decide +kernel
theorem dX8_init_106 : decode cX8_init 106 = .ok (.iconst 0, 1) := by decide +kernel
theorem dX8_init_107 : decode cX8_init 107 = .ok (.istore_n 1, 1) := by decide +kernel
theorem dX8_init_108 : decode cX8_init 108 = .ok (.iload_n 1, 1) := by decide +kernel
theorem dX8_init_109 : decode cX8_init 109 = .ok (.bipush 8, 2) := by decide +kernel
theorem dX8_init_111 : decode cX8_init 111 = .ok (.if_icmp .ge 22, 3) := by decide +kernel
theorem dX8_init_114 : decode cX8_init 114 = .ok (.aload_n 0, 1) := by decide +kernel
theorem dX8_init_115 : decode cX8_init 115 = .ok (.getfield 25, 3) := by decide +kernel
theorem dX8_init_118 : decode cX8_init 118 = .ok (.iload_n 1, 1) := by decide +kernel
theorem dX8_init_119 : decode cX8_init 119 = .ok (.new 23, 3) := by decide +kernel
theorem dX8_init_122 : decode cX8_init 122 = .ok (.dup, 1) := by decide +kernel
theorem dX8_init_123 : decode cX8_init 123 = .ok (.invokespecial 45, 3) := by decide +kernel
theorem dX8_init_126 : decode cX8_init 126 = .ok (.aastore, 1) := by decide +kernel
theorem dX8_init_127 : decode cX8_init 127 = .ok (.iinc 1 1, 3) := by decide +kernel
theorem dX8_init_130 : decode cX8_init 130 = .ok (.goto (-22), 3) := by decide +kernel
theorem dX8_init_133 : decode cX8_init 133 = .ok (.iconst 0, 1) := by decide +kernel
theorem dX8_init_134 : decode cX8_init 134 = .ok (.istore_n 1, 1) := by decide +kernel
theorem dX8_init_135 : decode cX8_init 135 = .ok (.iload_n 1, 1) := by decide +kernel
theorem dX8_init_136 : decode cX8_init 136 = .ok (.bipush 8, 2) := by decide +kernel
theorem dX8_init_138 : decode cX8_init 138 = .ok (.if_icmp .ge 22, 3) := by decide +kernel
theorem dX8_init_141 : decode cX8_init 141 = .ok (.aload_n 0, 1) := by decide +kernel
theorem dX8_init_142 : decode cX8_init 142 = .ok (.getfield 31, 3) := by decide +kernel
theorem dX8_init_145 : decode cX8_init 145 = .ok (.iload_n 1, 1) := by decide +kernel
theorem dX8_init_146 : decode cX8_init 146 = .ok (.new 29, 3) := by decide +kernel
theorem dX8_init_149 : decode cX8_init 149 = .ok (.dup, 1) := by decide +kernel
theorem dX8_init_150 : decode cX8_init 150 = .ok (.invokespecial 46, 3) := by decide +kernel
theorem dX8_init_153 : decode cX8_init 153 = .ok (.aastore, 1) := by decide +kernel
theorem dX8_init_154 : decode cX8_init 154 = .ok (.iinc 1 1, 3) := by decide +kernel
theorem dX8_init_157 : decode cX8_init 157 = .ok (.goto (-22), 3) := by decide +kernel
theorem dX8_init_160 : decode cX8_init 160 = .ok (.return_, 1) := by decide +kernel
theorem dX8_empty_0 : decode cX8_empty 0 = .ok (.aload_n 0, 1) := by decide +kernel
theorem dX8_empty_1 : decode cX8_empty 1 = .ok (.iconst 0, 1) := by decide +kernel
theorem dX8_empty_2 : decode cX8_empty 2 = .ok (.putfield 47, 3) := by decide +kernel
theorem dX8_empty_5 : decode cX8_empty 5 = .ok (.aload_n 0, 1) := by decide +kernel
theorem dX8_empty_6 : decode cX8_empty 6 = .ok (.iconst 0, 1) := by decide +kernel
theorem dX8_empty_7 : decode cX8_empty 7 = .ok (.putfield 50, 3) := by decide +kernel
theorem dX8_empty_10 : decode cX8_empty 10 = .ok (.aload_n 0, 1) := by decide +kernel
theorem dX8_empty_11 : decode cX8_empty 11 = .ok (.iconst 0, 1) := by decide +kernel
theorem dX8_empty_12 : decode cX8_empty 12 = .ok (.putfield 53, 3) := by decide +kernel
theorem dX8_empty_15 : decode cX8_empty 15 = .ok (.aload_n 0, 1) := by decide +kernel
theorem dX8_empty_16 : decode cX8_empty 16 = .ok (.iconst 0, 1) := by decide +kernel
theorem dX8_empty_17 : decode cX8_empty 17 = .ok (.putfield 56, 3) := by decide +kernel
theorem dX8_empty_20 : decode cX8_empty 20 = .ok (.aload_n 0, 1) := by decide +kernel
theorem dX8_empty_21 : decode cX8_empty 21 = .ok (.getfield 35, 3) := by decide +kernel
theorem dX8_empty_24 : decode cX8_empty 24 = .ok (.iconst 0, 1) := by decide +kernel
theorem dX8_empty_25 : decode cX8_empty 25 = .ok (.iconst 0, 1) := by decide +kernel
theorem dX8_empty_26 : decode cX8_empty 26 = .ok (.iastore, 1) := by decide +kernel
theorem dX8_empty_27 : decode cX8_empty 27 = .ok (.aload_n 0, 1) := by decide +kernel
theorem dX8_empty_28 : decode cX8_empty 28 = .ok (.getfield 35, 3) := by decide +kernel
theorem dX8_empty_31 : decode cX8_empty 31 = .ok (.iconst 1, 1) := by decide +kernel
theorem dX8_empty_32 : decode cX8_empty 32 = .ok (.iconst 0, 1) := by decide +kernel
theorem dX8_empty_33 : decode cX8_empty 33 = .ok (.iastore, 1) := by decide +kernel
theorem dX8_empty_34 : decode cX8_empty 34 = .ok (.aload_n 0, 1) := by decide +kernel
theorem dX8_empty_35 : decode cX8_empty 35 = .ok (.iconst 0, 1) := by decide +kernel
theorem dX8_empty_36 : decode cX8_empty 36 = .ok (.putfield 59, 3) := by decide +kernel
theorem dX8_empty_39 : decode cX8_empty 39 = .ok (.return_, 1) := by decide +kernel
theorem dX8_copyFrom_0 : decode cX8_copyFrom 0 = .ok (.aload_n 0, 1) := by decide +kernel
theorem dX8_copyFrom_1 : decode cX8_copyFrom 1 = .ok (.aload_n 1, 1) := by decide +kernel
theorem dX8_copyFrom_2 : decode cX8_copyFrom 2 = .ok (.getfield 47, 3) := by decide +kernel
theorem dX8_copyFrom_5 : decode cX8_copyFrom 5 = .ok (.putfield 47, 3) := by decide +kernel
theorem dX8_copyFrom_8 : decode cX8_copyFrom 8 = .ok (.aload_n 0, 1) := by decide +kernel
theorem dX8_copyFrom_9 : decode cX8_copyFrom 9 = .ok (.aload_n 1, 1) := by decide +kernel
theorem dX8_copyFrom_10 : decode cX8_copyFrom 10 = .ok (.getfield 50, 3) := by decide +kernel
theorem dX8_copyFrom_13 : decode cX8_copyFrom 13 = .ok (.putfield 50, 3) := by decide +kernel
theorem dX8_copyFrom_16 : decode cX8_copyFrom 16 = .ok (.aload_n 0, 1) := by decide +kernel
theorem dX8_copyFrom_17 : decode cX8_copyFrom 17 = .ok (.aload_n 1, 1) := by decide +kernel
theorem dX8_copyFrom_18 : decode cX8_copyFrom 18 = .ok (.getfield 53, 3) := by decide +kernel
theorem dX8_copyFrom_21 : decode cX8_copyFrom 21 = .ok (.putfield 53, 3) := by decide +kernel
theorem dX8_copyFrom_24 : decode cX8_copyFrom 24 = .ok (.aload_n 0, 1) := by decide +kernel
theorem dX8_copyFrom_25 : decode cX8_copyFrom 25 = .ok (.aload_n 1, 1) := by decide +kernel
theorem dX8_copyFrom_26 : decode cX8_copyFrom 26 = .ok (.getfield 56, 3) := by decide +kernel
theorem dX8_copyFrom_29 : decode cX8_copyFrom 29 = .ok (.putfield 56, 3) := by decide +kernel
theorem dX8_copyFrom_32 : decode cX8_copyFrom 32 = .ok (.iconst 0, 1) := by decide +kernel
theorem dX8_copyFrom_33 : decode cX8_copyFrom 33 = .ok (.istore_n 2, 1) := by decide +kernel
theorem dX8_copyFrom_34 : decode cX8_copyFrom 34 = .ok (.iload_n 2, 1) := by decide +kernel
theorem dX8_copyFrom_35 : decode cX8_copyFrom 35 = .ok (.aload_n 0, 1) := by decide +kernel
theorem dX8_copyFrom_36 : decode cX8_copyFrom 36 = .ok (.getfield 47, 3) := by decide +kernel
theorem dX8_copyFrom_39 : decode cX8_copyFrom 39 = .ok (.if_icmp .ge 30, 3) := by decide +kernel
theorem dX8_copyFrom_42 : decode cX8_copyFrom 42 = .ok (.iload_n 2, 1) := by decide +kernel
theorem dX8_copyFrom_43 : decode cX8_copyFrom 43 = .ok (.bipush 8, 2) := by decide +kernel
theorem dX8_copyFrom_45 : decode cX8_copyFrom 45 = .ok (.if_icmp .ge 24, 3) := by decide +kernel
theorem dX8_copyFrom_48 : decode cX8_copyFrom 48 = .ok (.aload_n 0, 1) := by decide +kernel
theorem dX8_copyFrom_49 : decode cX8_copyFrom 49 = .ok (.getfield 11, 3) := by decide +kernel
theorem dX8_copyFrom_52 : decode cX8_copyFrom 52 = .ok (.iload_n 2, 1) := by decide +kernel
theorem dX8_copyFrom_53 : decode cX8_copyFrom 53 = .ok (.aaload, 1) := by decide +kernel
theorem dX8_copyFrom_54 : decode cX8_copyFrom 54 = .ok (.aload_n 1, 1) := by decide +kernel
theorem dX8_copyFrom_55 : decode cX8_copyFrom 55 = .ok (.getfield 11, 3) := by decide +kernel
theorem dX8_copyFrom_58 : decode cX8_copyFrom 58 = .ok (.iload_n 2, 1) := by decide +kernel
theorem dX8_copyFrom_59 : decode cX8_copyFrom 59 = .ok (.aaload, 1) := by decide +kernel
theorem dX8_copyFrom_60 : decode cX8_copyFrom 60 = .ok (.invokevirtual 62, 3) := by decide +kernel
theorem dX8_copyFrom_63 : decode cX8_copyFrom 63 = .ok (.iinc 2 1, 3) := by decide +kernel
theorem dX8_copyFrom_66 : decode cX8_copyFrom 66 = .ok (.goto (-32), 3) := by decide +kernel
theorem dX8_copyFrom_69 : decode cX8_copyFrom 69 = .ok (.iconst 0, 1) := by decide +kernel
theorem dX8_copyFrom_70 : decode cX8_copyFrom 70 = .ok (.istore_n 2, 1) := by decide +kernel
theorem dX8_copyFrom_71 : decode cX8_copyFrom 71 = .ok (.iload_n 2, 1) := by decide +kernel
theorem dX8_copyFrom_72 : decode cX8_copyFrom 72 = .ok (.aload_n 0, 1) := by decide +kernel
theorem dX8_copyFrom_73 : decode cX8_copyFrom 73 = .ok (.getfield 50, 3) := by decide +kernel
theorem dX8_copyFrom_76 : decode cX8_copyFrom 76 = .ok (.if_icmp .ge 30, 3) := by decide +kernel
theorem dX8_copyFrom_79 : decode cX8_copyFrom 79 = .ok (.iload_n 2, 1) := by decide +kernel
theorem dX8_copyFrom_80 : decode cX8_copyFrom 80 = .ok (.bipush 10, 2) := by decide +kernel
theorem dX8_copyFrom_82 : decode cX8_copyFrom 82 = .ok (.if_icmp .ge 24, 3) := by decide +kernel
theorem dX8_copyFrom_85 : decode cX8_copyFrom 85 = .ok (.aload_n 0, 1) := by decide +kernel
theorem dX8_copyFrom_86 : decode cX8_copyFrom 86 = .ok (.getfield 19, 3) := by decide +kernel
theorem dX8_copyFrom_89 : decode cX8_copyFrom 89 = .ok (.iload_n 2, 1) := by decide +kernel
theorem dX8_copyFrom_90 : decode cX8_copyFrom 90 = .ok (.aaload, 1) := by decide +kernel
theorem dX8_copyFrom_91 : decode cX8_copyFrom 91 = .ok (.aload_n 1, 1) := by decide +kernel
theorem dX8_copyFrom_92 : decode cX8_copyFrom 92 = .ok (.getfield 19, 3) := by decide +kernel
theorem dX8_copyFrom_95 : decode cX8_copyFrom 95 = .ok (.iload_n 2, 1) := by decide +kernel
theorem dX8_copyFrom_96 : decode cX8_copyFrom 96 = .ok (.aaload, 1) := by decide +kernel
theorem dX8_copyFrom_97 : decode cX8_copyFrom 97 = .ok (.invokevirtual 66, 3) := by decide +kernel
theorem dX8_copyFrom_100 : decode cX8_copyFrom 100 = .ok (.iinc 2 1, 3) := by decide +kernel
theorem dX8_copyFrom_103 : decode cX8_copyFrom 103 = .ok (.goto (-32), 3) := by decide +kernel
theorem dX8_copyFrom_106 : decode cX8_copyFrom 106 = .ok (.iconst 0, 1) := by decide +kernel
theorem dX8_copyFrom_107 : decode cX8_copyFrom 107 = .ok (.istore_n 2, 1) := by decide +kernel
theorem dX8_copyFrom_108 : decode cX8_copyFrom 108 = .ok (.iload_n 2, 1) := by decide +kernel
theorem dX8_copyFrom_109 : decode cX8_copyFrom 109 = .ok (.aload_n 0, 1) := by decide +kernel
theorem dX8_copyFrom_110 : decode cX8_copyFrom 110 = .ok (.getfield 53, 3) := by decide +kernel
theorem dX8_copyFrom_113 : decode cX8_copyFrom 113 = .ok (.if_icmp .ge 30, 3) := by decide +kernel
theorem dX8_copyFrom_116 : decode cX8_copyFrom 116 = .ok (.iload_n 2, 1) := by decide +kernel
theorem dX8_copyFrom_117 : decode cX8_copyFrom 117 = .ok (.bipush 8, 2) := by decide +kernel
theorem dX8_copyFrom_119 : decode cX8_copyFrom 119 = .ok (.if_icmp .ge 24, 3) := by decide +kernel
theorem dX8_copyFrom_122 : decode cX8_copyFrom 122 = .ok (.aload_n 0, 1) := by decide +kernel
theorem dX8_copyFrom_123 : decode cX8_copyFrom 123 = .ok (.getfield 25, 3) := by decide +kernel
theorem dX8_copyFrom_126 : decode cX8_copyFrom 126 = .ok (.iload_n 2, 1) := by decide +kernel
theorem dX8_copyFrom_127 : decode cX8_copyFrom 127 = .ok (.aaload, 1) := by decide +kernel
theorem dX8_copyFrom_128 : decode cX8_copyFrom 128 = .ok (.aload_n 1, 1) := by decide +kernel
theorem dX8_copyFrom_129 : decode cX8_copyFrom 129 = .ok (.getfield 25, 3) := by decide +kernel
theorem dX8_copyFrom_132 : decode cX8_copyFrom 132 = .ok (.iload_n 2, 1) := by decide +kernel
theorem dX8_copyFrom_133 : decode cX8_copyFrom 133 = .ok (.aaload, 1) := by decide +kernel
theorem dX8_copyFrom_134 : decode cX8_copyFrom 134 = .ok (.invokevirtual 69, 3) := by decide +kernel
theorem dX8_copyFrom_137 : decode cX8_copyFrom 137 = .ok (.iinc 2 1, 3) := by decide +kernel
theorem dX8_copyFrom_140 : decode cX8_copyFrom 140 = .ok (.goto (-32), 3) := by decide +kernel
theorem dX8_copyFrom_143 : decode cX8_copyFrom 143 = .ok (.iconst 0, 1) := by decide +kernel
theorem dX8_copyFrom_144 : decode cX8_copyFrom 144 = .ok (.istore_n 2, 1) := by decide +kernel
theorem dX8_copyFrom_145 : decode cX8_copyFrom 145 = .ok (.iload_n 2, 1) := by decide +kernel
theorem dX8_copyFrom_146 : decode cX8_copyFrom 146 = .ok (.aload_n 0, 1) := by decide +kernel
theorem dX8_copyFrom_147 : decode cX8_copyFrom 147 = .ok (.getfield 56, 3) := by decide +kernel
theorem dX8_copyFrom_150 : decode cX8_copyFrom 150 = .ok (.if_icmp .ge 30, 3) := by decide +kernel
theorem dX8_copyFrom_153 : decode cX8_copyFrom 153 = .ok (.iload_n 2, 1) := by decide +kernel
theorem dX8_copyFrom_154 : decode cX8_copyFrom 154 = .ok (.bipush 8, 2) := by decide +kernel
theorem dX8_copyFrom_156 : decode cX8_copyFrom 156 = .ok (.if_icmp .ge 24, 3) := by decide +kernel
theorem dX8_copyFrom_159 : decode cX8_copyFrom 159 = .ok (.aload_n 0, 1) := by decide +kernel
theorem dX8_copyFrom_160 : decode cX8_copyFrom 160 = .ok (.getfield 31, 3) := by decide +kernel
theorem dX8_copyFrom_163 : decode cX8_copyFrom 163 = .ok (.iload_n 2, 1) := by decide +kernel
theorem dX8_copyFrom_164 : decode cX8_copyFrom 164 = .ok (.aaload, 1) := by decide +kernel
theorem dX8_copyFrom_165 : decode cX8_copyFrom 165 = .ok (.aload_n 1, 1) := by decide +kernel
theorem dX8_copyFrom_166 : decode cX8_copyFrom 166 = .ok (.getfield 31, 3) := by decide +kernel
theorem dX8_copyFrom_169 : decode cX8_copyFrom 169 = .ok (.iload_n 2, 1) := by decide +kernel
theorem dX8_copyFrom_170 : decode cX8_copyFrom 170 = .ok (.aaload, 1) := by decide +kernel
theorem dX8_copyFrom_171 : decode cX8_copyFrom 171 = .ok (.invokevirtual 72, 3) := by decide +kernel
theorem dX8_copyFrom_174 : decode cX8_copyFrom 174 = .ok (.iinc 2 1, 3) := by decide +kernel
theorem dX8_copyFrom_177 : decode cX8_copyFrom 177 = .ok (.goto (-32), 3) := by decide +kernel
theorem dX8_copyFrom_180 : decode cX8_copyFrom 180 = .ok (.aload_n 0, 1) := by decide +kernel
theorem dX8_copyFrom_181 : decode cX8_copyFrom 181 = .ok (.getfield 35, 3) := by decide +kernel
theorem dX8_copyFrom_184 : decode cX8_copyFrom 184 = .ok (.iconst 0, 1) := by decide +kernel
theorem dX8_copyFrom_185 : decode cX8_copyFrom 185 = .ok (.aload_n 1, 1) := by decide +kernel
theorem dX8_copyFrom_186 : decode cX8_copyFrom 186 = .ok (.getfield 35, 3) := by decide +kernel
theorem dX8_copyFrom_189 : decode cX8_copyFrom 189 = .ok (.iconst 0, 1) := by decide +kernel
theorem dX8_copyFrom_190 : decode cX8_copyFrom 190 = .ok (.iaload, 1) := by decide +kernel
theorem dX8_copyFrom_191 : decode cX8_copyFrom 191 = .ok (.iastore, 1) := by decide +kernel
theorem dX8_copyFrom_192 : decode cX8_copyFrom 192 = .ok (.aload_n 0, 1) := by decide +kernel
theorem dX8_copyFrom_193 : decode cX8_copyFrom 193 = .ok (.getfield 35, 3) := by decide +kernel
theorem dX8_copyFrom_196 : decode cX8_copyFrom 196 = .ok (.iconst 1, 1) := by decide +kernel
theorem dX8_copyFrom_197 : decode cX8_copyFrom 197 = .ok (.aload_n 1, 1) := by decide +kernel
theorem dX8_copyFrom_198 : decode cX8_copyFrom 198 = .ok (.getfield 35, 3) := by decide +kernel
theorem dX8_copyFrom_201 : decode cX8_copyFrom 201 = .ok (.iconst 1, 1) := by decide +kernel
theorem dX8_copyFrom_202 : decode cX8_copyFrom 202 = .ok (.iaload, 1) := by decide +kernel
theorem dX8_copyFrom_203 : decode cX8_copyFrom 203 = .ok (.iastore, 1) := by decide +kernel
theorem dX8_copyFrom_204 : decode cX8_copyFrom 204 = .ok (.aload_n 0, 1) := by decide +kernel
theorem dX8_copyFrom_205 : decode cX8_copyFrom 205 = .ok (.aload_n 1, 1) := by decide +kernel
theorem dX8_copyFrom_206 : decode cX8_copyFrom 206 = .ok (.getfield 59, 3) := by decide +kernel
theorem dX8_copyFrom_209 : decode cX8_copyFrom 209 = .ok (.putfield 59, 3) := by decide +kernel
theorem dX8_copyFrom_212 : decode cX8_copyFrom 212 = .ok (.aload_n 0, 1) := by decide +kernel
theorem dX8_copyFrom_213 : decode cX8_copyFrom 213 = .ok (.aload_n 1, 1) := by decide +kernel
theorem dX8_copyFrom_214 : decode cX8_copyFrom 214 = .ok (.getfield 39, 3) := by decide +kernel
theorem dX8_copyFrom_217 : decode cX8_copyFrom 217 = .ok (.putfield 39, 3) := by decide +kernel
theorem dX8_copyFrom_220 : decode cX8_copyFrom 220 = .ok (.return_, 1) := by decide +kernel
theorem dX8_hasThing_0 : decode cX8_hasThing 0 = .ok (.iload_n 1, 1) := by decide +kernel
theorem dX8_hasThing_1 : decode cX8_hasThing 1 = .ok (.iconst 0, 1) := by decide +kernel
theorem dX8_hasThing_2 : decode cX8_hasThing 2 = .ok (.aload_n 0, 1) := by decide +kernel
theorem dX8_hasThing_3 : decode cX8_hasThing 3 = .ok (.getfield 47, 3) := by decide +kernel
theorem dX8_hasThing_6 : decode cX8_hasThing 6 = .ok (.iconst 1, 1) := by decide +kernel
theorem dX8_hasThing_7 : decode cX8_hasThing 7 = .ok (.isub, 1) := by decide +kernel
theorem dX8_hasThing_8 : decode cX8_hasThing 8 = .ok (.invokestatic 75, 3) := by decide +kernel
theorem dX8_hasThing_11 : decode cX8_hasThing 11 = .ok (.ireturn, 1) := by decide +kernel
theorem dX8_hasEffect_0 : decode cX8_hasEffect 0 = .ok (.iload_n 1, 1) := by decide +kernel
theorem dX8_hasEffect_1 : decode cX8_hasEffect 1 = .ok (.iconst 0, 1) := by decide +kernel
theorem dX8_hasEffect_2 : decode cX8_hasEffect 2 = .ok (.aload_n 0, 1) := by decide +kernel
theorem dX8_hasEffect_3 : decode cX8_hasEffect 3 = .ok (.getfield 50, 3) := by decide +kernel
theorem dX8_hasEffect_6 : decode cX8_hasEffect 6 = .ok (.iconst 1, 1) := by decide +kernel
theorem dX8_hasEffect_7 : decode cX8_hasEffect 7 = .ok (.isub, 1) := by decide +kernel
theorem dX8_hasEffect_8 : decode cX8_hasEffect 8 = .ok (.invokestatic 75, 3) := by decide +kernel
theorem dX8_hasEffect_11 : decode cX8_hasEffect 11 = .ok (.ireturn, 1) := by decide +kernel
theorem dX8_hasRule_0 : decode cX8_hasRule 0 = .ok (.iload_n 1, 1) := by decide +kernel
theorem dX8_hasRule_1 : decode cX8_hasRule 1 = .ok (.iconst 0, 1) := by decide +kernel
theorem dX8_hasRule_2 : decode cX8_hasRule 2 = .ok (.aload_n 0, 1) := by decide +kernel
theorem dX8_hasRule_3 : decode cX8_hasRule 3 = .ok (.getfield 53, 3) := by decide +kernel
theorem dX8_hasRule_6 : decode cX8_hasRule 6 = .ok (.iconst 1, 1) := by decide +kernel
theorem dX8_hasRule_7 : decode cX8_hasRule 7 = .ok (.isub, 1) := by decide +kernel
theorem dX8_hasRule_8 : decode cX8_hasRule 8 = .ok (.invokestatic 75, 3) := by decide +kernel
theorem dX8_hasRule_11 : decode cX8_hasRule 11 = .ok (.ireturn, 1) := by decide +kernel
theorem dX8_hasWatcher_0 : decode cX8_hasWatcher 0 = .ok (.iload_n 1, 1) := by decide +kernel
theorem dX8_hasWatcher_1 : decode cX8_hasWatcher 1 = .ok (.iconst 0, 1) := by decide +kernel
theorem dX8_hasWatcher_2 : decode cX8_hasWatcher 2 = .ok (.aload_n 0, 1) := by decide +kernel
theorem dX8_hasWatcher_3 : decode cX8_hasWatcher 3 = .ok (.getfield 56, 3) := by decide +kernel
theorem dX8_hasWatcher_6 : decode cX8_hasWatcher 6 = .ok (.iconst 1, 1) := by decide +kernel
theorem dX8_hasWatcher_7 : decode cX8_hasWatcher 7 = .ok (.isub, 1) := by decide +kernel
theorem dX8_hasWatcher_8 : decode cX8_hasWatcher 8 = .ok (.invokestatic 75, 3) := by decide +kernel
theorem dX8_hasWatcher_11 : decode cX8_hasWatcher 11 = .ok (.ireturn, 1) := by decide +kernel
theorem dX8_isAlive_0 : decode cX8_isAlive 0 = .ok (.iload_n 1, 1) := by decide +kernel
theorem dX8_isAlive_1 : decode cX8_isAlive 1 = .ok (.ifCond .lt 27, 3) := by decide +kernel
theorem dX8_isAlive_4 : decode cX8_isAlive 4 = .ok (.iload_n 1, 1) := by decide +kernel
theorem dX8_isAlive_5 : decode cX8_isAlive 5 = .ok (.aload_n 0, 1) := by decide +kernel
theorem dX8_isAlive_6 : decode cX8_isAlive 6 = .ok (.getfield 47, 3) := by decide +kernel
theorem dX8_isAlive_9 : decode cX8_isAlive 9 = .ok (.if_icmp .ge 19, 3) := by decide +kernel
theorem dX8_isAlive_12 : decode cX8_isAlive 12 = .ok (.aload_n 0, 1) := by decide +kernel
theorem dX8_isAlive_13 : decode cX8_isAlive 13 = .ok (.getfield 11, 3) := by decide +kernel
theorem dX8_isAlive_16 : decode cX8_isAlive 16 = .ok (.iload_n 1, 1) := by decide +kernel
theorem dX8_isAlive_17 : decode cX8_isAlive 17 = .ok (.aaload, 1) := by decide +kernel
theorem dX8_isAlive_18 : decode cX8_isAlive 18 = .ok (.getfield 79, 3) := by decide +kernel
theorem dX8_isAlive_21 : decode cX8_isAlive 21 = .ok (.ifCond .eq 7, 3) := by decide +kernel
theorem dX8_isAlive_24 : decode cX8_isAlive 24 = .ok (.iconst 1, 1) := by decide +kernel
theorem dX8_isAlive_25 : decode cX8_isAlive 25 = .ok (.goto 4, 3) := by decide +kernel
theorem dX8_isAlive_28 : decode cX8_isAlive 28 = .ok (.iconst 0, 1) := by decide +kernel
theorem dX8_isAlive_29 : decode cX8_isAlive 29 = .ok (.ireturn, 1) := by decide +kernel
theorem dX8_works_0 : decode cX8_works 0 = .ok (.aload_n 1, 1) := by decide +kernel
theorem dX8_works_1 : decode cX8_works 1 = .ok (.getfield 83, 3) := by decide +kernel
theorem dX8_works_4 : decode cX8_works 4 = .ok (.iconst (-1), 1) := by decide +kernel
theorem dX8_works_5 : decode cX8_works 5 = .ok (.if_icmp .eq 14, 3) := by decide +kernel
theorem dX8_works_8 : decode cX8_works 8 = .ok (.aload_n 0, 1) := by decide +kernel
theorem dX8_works_9 : decode cX8_works 9 = .ok (.aload_n 1, 1) := by decide +kernel
theorem dX8_works_10 : decode cX8_works 10 = .ok (.getfield 83, 3) := by decide +kernel
theorem dX8_works_13 : decode cX8_works 13 = .ok (.invokevirtual 86, 3) := by decide +kernel
theorem dX8_works_16 : decode cX8_works 16 = .ok (.ifCond .eq 7, 3) := by decide +kernel
theorem dX8_works_19 : decode cX8_works 19 = .ok (.iconst 1, 1) := by decide +kernel
theorem dX8_works_20 : decode cX8_works 20 = .ok (.goto 4, 3) := by decide +kernel
theorem dX8_works_23 : decode cX8_works 23 = .ok (.iconst 0, 1) := by decide +kernel
theorem dX8_works_24 : decode cX8_works 24 = .ok (.ireturn, 1) := by decide +kernel
theorem dX8_aliveBits_0 : decode cX8_aliveBits 0 = .ok (.iconst 0, 1) := by decide +kernel
theorem dX8_aliveBits_1 : decode cX8_aliveBits 1 = .ok (.istore_n 1, 1) := by decide +kernel
theorem dX8_aliveBits_2 : decode cX8_aliveBits 2 = .ok (.iconst 0, 1) := by decide +kernel
theorem dX8_aliveBits_3 : decode cX8_aliveBits 3 = .ok (.istore_n 2, 1) := by decide +kernel
theorem dX8_aliveBits_4 : decode cX8_aliveBits 4 = .ok (.iload_n 2, 1) := by decide +kernel
theorem dX8_aliveBits_5 : decode cX8_aliveBits 5 = .ok (.aload_n 0, 1) := by decide +kernel
theorem dX8_aliveBits_6 : decode cX8_aliveBits 6 = .ok (.getfield 47, 3) := by decide +kernel
theorem dX8_aliveBits_9 : decode cX8_aliveBits 9 = .ok (.if_icmp .ge 27, 3) := by decide +kernel
theorem dX8_aliveBits_12 : decode cX8_aliveBits 12 = .ok (.aload_n 0, 1) := by decide +kernel
theorem dX8_aliveBits_13 : decode cX8_aliveBits 13 = .ok (.getfield 11, 3) := by decide +kernel
theorem dX8_aliveBits_16 : decode cX8_aliveBits 16 = .ok (.iload_n 2, 1) := by decide +kernel
theorem dX8_aliveBits_17 : decode cX8_aliveBits 17 = .ok (.aaload, 1) := by decide +kernel
theorem dX8_aliveBits_18 : decode cX8_aliveBits 18 = .ok (.getfield 79, 3) := by decide +kernel
theorem dX8_aliveBits_21 : decode cX8_aliveBits 21 = .ok (.ifCond .eq 9, 3) := by decide +kernel
theorem dX8_aliveBits_24 : decode cX8_aliveBits 24 = .ok (.iload_n 1, 1) := by decide +kernel
theorem dX8_aliveBits_25 : decode cX8_aliveBits 25 = .ok (.iconst 1, 1) := by decide +kernel
theorem dX8_aliveBits_26 : decode cX8_aliveBits 26 = .ok (.iload_n 2, 1) := by decide +kernel
theorem dX8_aliveBits_27 : decode cX8_aliveBits 27 = .ok (.ishl, 1) := by decide +kernel
theorem dX8_aliveBits_28 : decode cX8_aliveBits 28 = .ok (.ior, 1) := by decide +kernel
theorem dX8_aliveBits_29 : decode cX8_aliveBits 29 = .ok (.istore_n 1, 1) := by decide +kernel
theorem dX8_aliveBits_30 : decode cX8_aliveBits 30 = .ok (.iinc 2 1, 3) := by decide +kernel
theorem dX8_aliveBits_33 : decode cX8_aliveBits 33 = .ok (.goto (-29), 3) := by decide +kernel
theorem dX8_aliveBits_36 : decode cX8_aliveBits 36 = .ok (.iload_n 1, 1) := by decide +kernel
theorem dX8_aliveBits_37 : decode cX8_aliveBits 37 = .ok (.ireturn, 1) := by decide +kernel
theorem dX8_workingIn_0 : decode cX8_workingIn 0 = .ok (.iconst 0, 1) := by decide +kernel
theorem dX8_workingIn_1 : decode cX8_workingIn 1 = .ok (.istore_n 2, 1) := by decide +kernel
theorem dX8_workingIn_2 : decode cX8_workingIn 2 = .ok (.iconst 0, 1) := by decide +kernel
theorem dX8_workingIn_3 : decode cX8_workingIn 3 = .ok (.istore_n 3, 1) := by decide +kernel
theorem dX8_workingIn_4 : decode cX8_workingIn 4 = .ok (.iload_n 3, 1) := by decide +kernel
theorem dX8_workingIn_5 : decode cX8_workingIn 5 = .ok (.aload_n 0, 1) := by decide +kernel
theorem dX8_workingIn_6 : decode cX8_workingIn 6 = .ok (.getfield 50, 3) := by decide +kernel
theorem dX8_workingIn_9 : decode cX8_workingIn 9 = .ok (.if_icmp .ge 41, 3) := by decide +kernel
theorem dX8_workingIn_12 : decode cX8_workingIn 12 = .ok (.aload_n 0, 1) := by decide +kernel
theorem dX8_workingIn_13 : decode cX8_workingIn 13 = .ok (.getfield 19, 3) := by decide +kernel
theorem dX8_workingIn_16 : decode cX8_workingIn 16 = .ok (.iload_n 3, 1) := by decide +kernel
theorem dX8_workingIn_17 : decode cX8_workingIn 17 = .ok (.aaload, 1) := by decide +kernel
theorem dX8_workingIn_18 : decode cX8_workingIn 18 = .ok (.invokevirtual 90, 3) := by decide +kernel
theorem dX8_workingIn_21 : decode cX8_workingIn 21 = .ok (.iload_n 1, 1) := by decide +kernel
theorem dX8_workingIn_22 : decode cX8_workingIn 22 = .ok (.if_icmp .ne 22, 3) := by decide +kernel
theorem dX8_workingIn_25 : decode cX8_workingIn 25 = .ok (.aload_n 0, 1) := by decide +kernel
theorem dX8_workingIn_26 : decode cX8_workingIn 26 = .ok (.aload_n 0, 1) := by decide +kernel
theorem dX8_workingIn_27 : decode cX8_workingIn 27 = .ok (.getfield 19, 3) := by decide +kernel
theorem dX8_workingIn_30 : decode cX8_workingIn 30 = .ok (.iload_n 3, 1) := by decide +kernel
theorem dX8_workingIn_31 : decode cX8_workingIn 31 = .ok (.aaload, 1) := by decide +kernel
theorem dX8_workingIn_32 : decode cX8_workingIn 32 = .ok (.invokevirtual 94, 3) := by decide +kernel
theorem dX8_workingIn_35 : decode cX8_workingIn 35 = .ok (.ifCond .eq 9, 3) := by decide +kernel
theorem dX8_workingIn_38 : decode cX8_workingIn 38 = .ok (.iload_n 2, 1) := by decide +kernel
theorem dX8_workingIn_39 : decode cX8_workingIn 39 = .ok (.iconst 1, 1) := by decide +kernel
theorem dX8_workingIn_40 : decode cX8_workingIn 40 = .ok (.iload_n 3, 1) := by decide +kernel
theorem dX8_workingIn_41 : decode cX8_workingIn 41 = .ok (.ishl, 1) := by decide +kernel
theorem dX8_workingIn_42 : decode cX8_workingIn 42 = .ok (.ior, 1) := by decide +kernel
theorem dX8_workingIn_43 : decode cX8_workingIn 43 = .ok (.istore_n 2, 1) := by decide +kernel
theorem dX8_workingIn_44 : decode cX8_workingIn 44 = .ok (.iinc 3 1, 3) := by decide +kernel
theorem dX8_workingIn_47 : decode cX8_workingIn 47 = .ok (.goto (-43), 3) := by decide +kernel
theorem dX8_workingIn_50 : decode cX8_workingIn 50 = .ok (.iload_n 2, 1) := by decide +kernel
theorem dX8_workingIn_51 : decode cX8_workingIn 51 = .ok (.ireturn, 1) := by decide +kernel
theorem dX8_addThing_0 : decode cX8_addThing 0 = .ok (.aload_n 0, 1) := by decide +kernel
theorem dX8_addThing_1 : decode cX8_addThing 1 = .ok (.getfield 47, 3) := by decide +kernel
theorem dX8_addThing_4 : decode cX8_addThing 4 = .ok (.bipush 8, 2) := by decide +kernel
theorem dX8_addThing_6 : decode cX8_addThing 6 = .ok (.if_icmp .ge 30, 3) := by decide +kernel
theorem dX8_addThing_9 : decode cX8_addThing 9 = .ok (.aload_n 0, 1) := by decide +kernel
theorem dX8_addThing_10 : decode cX8_addThing 10 = .ok (.getfield 11, 3) := by decide +kernel
theorem dX8_addThing_13 : decode cX8_addThing 13 = .ok (.aload_n 0, 1) := by decide +kernel
theorem dX8_addThing_14 : decode cX8_addThing 14 = .ok (.getfield 47, 3) := by decide +kernel
theorem dX8_addThing_17 : decode cX8_addThing 17 = .ok (.aaload, 1) := by decide +kernel
theorem dX8_addThing_18 : decode cX8_addThing 18 = .ok (.iload_n 1, 1) := by decide +kernel
theorem dX8_addThing_19 : decode cX8_addThing 19 = .ok (.iload_n 2, 1) := by decide +kernel
theorem dX8_addThing_20 : decode cX8_addThing 20 = .ok (.iload_n 3, 1) := by decide +kernel
theorem dX8_addThing_21 : decode cX8_addThing 21 = .ok (.iload 4, 2) := by decide +kernel
theorem dX8_addThing_23 : decode cX8_addThing 23 = .ok (.invokevirtual 98, 3) := by decide +kernel
theorem dX8_addThing_26 : decode cX8_addThing 26 = .ok (.aload_n 0, 1) := by decide +kernel
theorem dX8_addThing_27 : decode cX8_addThing 27 = .ok (.dup, 1) := by decide +kernel
theorem dX8_addThing_28 : decode cX8_addThing 28 = .ok (.getfield 47, 3) := by decide +kernel
theorem dX8_addThing_31 : decode cX8_addThing 31 = .ok (.iconst 1, 1) := by decide +kernel
theorem dX8_addThing_32 : decode cX8_addThing 32 = .ok (.iadd, 1) := by decide +kernel
theorem dX8_addThing_33 : decode cX8_addThing 33 = .ok (.putfield 47, 3) := by decide +kernel
theorem dX8_addThing_36 : decode cX8_addThing 36 = .ok (.return_, 1) := by decide +kernel
theorem dX8_dropEffect_0 : decode cX8_dropEffect 0 = .ok (.aload_n 0, 1) := by decide +kernel
theorem dX8_dropEffect_1 : decode cX8_dropEffect 1 = .ok (.iload_n 1, 1) := by decide +kernel
theorem dX8_dropEffect_2 : decode cX8_dropEffect 2 = .ok (.invokevirtual 102, 3) := by decide +kernel
theorem dX8_dropEffect_5 : decode cX8_dropEffect 5 = .ok (.ifCond .ne 4, 3) := by decide +kernel
theorem dX8_dropEffect_8 : decode cX8_dropEffect 8 = .ok (.return_, 1) := by decide +kernel
theorem dX8_dropEffect_9 : decode cX8_dropEffect 9 = .ok (.aload_n 0, 1) := by decide +kernel
theorem dX8_dropEffect_10 : decode cX8_dropEffect 10 = .ok (.getfield 19, 3) := by decide +kernel
theorem dX8_dropEffect_13 : decode cX8_dropEffect 13 = .ok (.iload_n 1, 1) := by decide +kernel
theorem dX8_dropEffect_14 : decode cX8_dropEffect 14 = .ok (.aaload, 1) := by decide +kernel
theorem dX8_dropEffect_15 : decode cX8_dropEffect 15 = .ok (.astore_n 2, 1) := by decide +kernel
theorem dX8_dropEffect_16 : decode cX8_dropEffect 16 = .ok (.iload_n 1, 1) := by decide +kernel
theorem dX8_dropEffect_17 : decode cX8_dropEffect 17 = .ok (.istore_n 3, 1) := by decide +kernel
theorem dX8_dropEffect_18 : decode cX8_dropEffect 18 = .ok (.iload_n 3, 1) := by decide +kernel
theorem dX8_dropEffect_19 : decode cX8_dropEffect 19 = .ok (.aload_n 0, 1) := by decide +kernel
theorem dX8_dropEffect_20 : decode cX8_dropEffect 20 = .ok (.getfield 50, 3) := by decide +kernel
theorem dX8_dropEffect_23 : decode cX8_dropEffect 23 = .ok (.iconst 1, 1) := by decide +kernel
theorem dX8_dropEffect_24 : decode cX8_dropEffect 24 = .ok (.isub, 1) := by decide +kernel
theorem dX8_dropEffect_25 : decode cX8_dropEffect 25 = .ok (.if_icmp .ge 23, 3) := by decide +kernel
theorem dX8_dropEffect_28 : decode cX8_dropEffect 28 = .ok (.aload_n 0, 1) := by decide +kernel
theorem dX8_dropEffect_29 : decode cX8_dropEffect 29 = .ok (.getfield 19, 3) := by decide +kernel
theorem dX8_dropEffect_32 : decode cX8_dropEffect 32 = .ok (.iload_n 3, 1) := by decide +kernel
theorem dX8_dropEffect_33 : decode cX8_dropEffect 33 = .ok (.aload_n 0, 1) := by decide +kernel
theorem dX8_dropEffect_34 : decode cX8_dropEffect 34 = .ok (.getfield 19, 3) := by decide +kernel
theorem dX8_dropEffect_37 : decode cX8_dropEffect 37 = .ok (.iload_n 3, 1) := by decide +kernel
theorem dX8_dropEffect_38 : decode cX8_dropEffect 38 = .ok (.iconst 1, 1) := by decide +kernel
theorem dX8_dropEffect_39 : decode cX8_dropEffect 39 = .ok (.iadd, 1) := by decide +kernel
theorem dX8_dropEffect_40 : decode cX8_dropEffect 40 = .ok (.aaload, 1) := by decide +kernel
theorem dX8_dropEffect_41 : decode cX8_dropEffect 41 = .ok (.aastore, 1) := by decide +kernel
theorem dX8_dropEffect_42 : decode cX8_dropEffect 42 = .ok (.iinc 3 1, 3) := by decide +kernel
theorem dX8_dropEffect_45 : decode cX8_dropEffect 45 = .ok (.goto (-27), 3) := by decide +kernel
theorem dX8_dropEffect_48 : decode cX8_dropEffect 48 = .ok (.aload_n 0, 1) := by decide +kernel
theorem dX8_dropEffect_49 : decode cX8_dropEffect 49 = .ok (.dup, 1) := by decide +kernel
theorem dX8_dropEffect_50 : decode cX8_dropEffect 50 = .ok (.getfield 50, 3) := by decide +kernel
