theorem dX9_init_0 : decode cX9_init 0 = .ok (.aload_n 0, 1) := by decide +kernel
theorem dX9_init_1 : decode cX9_init 1 = .ok (.invokespecial 3, 3) := by decide +kernel
theorem dX9_init_4 : decode cX9_init 4 = .ok (.aload_n 0, 1) := by decide +kernel
theorem dX9_init_5 : decode cX9_init 5 = .ok (.bipush 8, 2) := by decide +kernel
theorem dX9_init_7 : decode cX9_init 7 = .ok (.newarray .int, 2) := by decide +kernel
theorem dX9_init_9 : decode cX9_init 9 = .ok (.putfield 9, 3) := by decide +kernel
theorem dX9_init_12 : decode cX9_init 12 = .ok (.return_, 1) := by decide +kernel
theorem dX9_follow_0 : decode cX9_follow 0 = .ok (.aload_n 0, 1) := by decide +kernel
theorem dX9_follow_1 : decode cX9_follow 1 = .ok (.iload_n 3, 1) := by decide +kernel
theorem dX9_follow_2 : decode cX9_follow 2 = .ok (.putfield 15, 3) := by decide +kernel
theorem dX9_follow_5 : decode cX9_follow 5 = .ok (.aload_n 0, 1) := by decide +kernel
theorem dX9_follow_6 : decode cX9_follow 6 = .ok (.iload 4, 2) := by decide +kernel
theorem dX9_follow_8 : decode cX9_follow 8 = .ok (.putfield 19, 3) := by decide +kernel
theorem dX9_follow_11 : decode cX9_follow 11 = .ok (.aload_n 0, 1) := by decide +kernel
theorem dX9_follow_12 : decode cX9_follow 12 = .ok (.iconst 0, 1) := by decide +kernel
theorem dX9_follow_13 : decode cX9_follow 13 = .ok (.putfield 22, 3) := by decide +kernel
theorem dX9_follow_16 : decode cX9_follow 16 = .ok (.aload_n 0, 1) := by decide +kernel
theorem dX9_follow_17 : decode cX9_follow 17 = .ok (.iconst 0, 1) := by decide +kernel
theorem dX9_follow_18 : decode cX9_follow 18 = .ok (.putfield 26, 3) := by decide +kernel
theorem dX9_follow_21 : decode cX9_follow 21 = .ok (.iconst 0, 1) := by decide +kernel
theorem dX9_follow_22 : decode cX9_follow 22 = .ok (.istore 5, 2) := by decide +kernel
theorem dX9_follow_24 : decode cX9_follow 24 = .ok (.iload 5, 2) := by decide +kernel
theorem dX9_follow_26 : decode cX9_follow 26 = .ok (.bipush 8, 2) := by decide +kernel
theorem dX9_follow_28 : decode cX9_follow 28 = .ok (.if_icmp .ge 64, 3) := by decide +kernel
theorem dX9_follow_31 : decode cX9_follow 31 = .ok (.aload_n 0, 1) := by decide +kernel
theorem dX9_follow_32 : decode cX9_follow 32 = .ok (.getfield 19, 3) := by decide +kernel
theorem dX9_follow_35 : decode cX9_follow 35 = .ok (.ifCond .le 57, 3) := by decide +kernel
theorem dX9_follow_38 : decode cX9_follow 38 = .ok (.aload_n 0, 1) := by decide +kernel
theorem dX9_follow_39 : decode cX9_follow 39 = .ok (.getfield 22, 3) := by decide +kernel
theorem dX9_follow_42 : decode cX9_follow 42 = .ok (.ifCond .ne 50, 3) := by decide +kernel
theorem dX9_follow_45 : decode cX9_follow 45 = .ok (.aload_n 0, 1) := by decide +kernel
theorem dX9_follow_46 : decode cX9_follow 46 = .ok (.aload_n 1, 1) := by decide +kernel
theorem dX9_follow_47 : decode cX9_follow 47 = .ok (.aload_n 2, 1) := by decide +kernel
theorem dX9_follow_48 : decode cX9_follow 48 = .ok (.invokevirtual 29, 3) := by decide +kernel
theorem dX9_follow_51 : decode cX9_follow 51 = .ok (.istore 6, 2) := by decide +kernel
theorem dX9_follow_53 : decode cX9_follow 53 = .ok (.iload 6, 2) := by decide +kernel
theorem dX9_follow_55 : decode cX9_follow 55 = .ok (.iconst (-1), 1) := by decide +kernel
theorem dX9_follow_56 : decode cX9_follow 56 = .ok (.if_icmp .ne 4, 3) := by decide +kernel
theorem dX9_follow_59 : decode cX9_follow 59 = .ok (.return_, 1) := by decide +kernel
theorem dX9_follow_60 : decode cX9_follow 60 = .ok (.aload_n 0, 1) := by decide +kernel
theorem dX9_follow_61 : decode cX9_follow 61 = .ok (.dup, 1) := by decide +kernel
theorem dX9_follow_62 : decode cX9_follow 62 = .ok (.getfield 26, 3) := by decide +kernel
theorem dX9_follow_65 : decode cX9_follow 65 = .ok (.iconst 1, 1) := by decide +kernel
theorem dX9_follow_66 : decode cX9_follow 66 = .ok (.iload 6, 2) := by decide +kernel
theorem dX9_follow_68 : decode cX9_follow 68 = .ok (.ishl, 1) := by decide +kernel
theorem dX9_follow_69 : decode cX9_follow 69 = .ok (.ior, 1) := by decide +kernel
theorem dX9_follow_70 : decode cX9_follow 70 = .ok (.putfield 26, 3) := by decide +kernel
theorem dX9_follow_73 : decode cX9_follow 73 = .ok (.aload_n 0, 1) := by decide +kernel
theorem dX9_follow_74 : decode cX9_follow 74 = .ok (.aload_n 1, 1) := by decide +kernel
theorem dX9_follow_75 : decode cX9_follow 75 = .ok (.getfield 33, 3) := by decide +kernel
theorem dX9_follow_78 : decode cX9_follow 78 = .ok (.iload 6, 2) := by decide +kernel
theorem dX9_follow_80 : decode cX9_follow 80 = .ok (.aaload, 1) := by decide +kernel
theorem dX9_follow_81 : decode cX9_follow 81 = .ok (.iload 6, 2) := by decide +kernel
theorem dX9_follow_83 : decode cX9_follow 83 = .ok (.invokevirtual 39, 3) := by decide +kernel
theorem dX9_follow_86 : decode cX9_follow 86 = .ok (.iinc 5 1, 3) := by decide +kernel
theorem dX9_follow_89 : decode cX9_follow 89 = .ok (.goto (-65), 3) := by decide +kernel
theorem dX9_follow_92 : decode cX9_follow 92 = .ok (.return_, 1) := by decide +kernel
theorem dX9_pickRule_0 : decode cX9_pickRule 0 = .ok (.iconst (-1), 1) := by decide +kernel
theorem dX9_pickRule_1 : decode cX9_pickRule 1 = .ok (.istore_n 3, 1) := by decide +kernel
theorem dX9_pickRule_2 : decode cX9_pickRule 2 = .ok (.aload_n 1, 1) := by decide +kernel
theorem dX9_pickRule_3 : decode cX9_pickRule 3 = .ok (.aload_n 0, 1) := by decide +kernel
theorem dX9_pickRule_4 : decode cX9_pickRule 4 = .ok (.getfield 15, 3) := by decide +kernel
theorem dX9_pickRule_7 : decode cX9_pickRule 7 = .ok (.invokevirtual 43, 3) := by decide +kernel
theorem dX9_pickRule_10 : decode cX9_pickRule 10 = .ok (.ifCond .eq 28, 3) := by decide +kernel
theorem dX9_pickRule_13 : decode cX9_pickRule 13 = .ok (.aload_n 1, 1) := by decide +kernel
theorem dX9_pickRule_14 : decode cX9_pickRule 14 = .ok (.getfield 47, 3) := by decide +kernel
theorem dX9_pickRule_17 : decode cX9_pickRule 17 = .ok (.aload_n 1, 1) := by decide +kernel
theorem dX9_pickRule_18 : decode cX9_pickRule 18 = .ok (.getfield 50, 3) := by decide +kernel
theorem dX9_pickRule_21 : decode cX9_pickRule 21 = .ok (.aload_n 0, 1) := by decide +kernel
theorem dX9_pickRule_22 : decode cX9_pickRule 22 = .ok (.getfield 15, 3) := by decide +kernel
theorem dX9_pickRule_25 : decode cX9_pickRule 25 = .ok (.aaload, 1) := by decide +kernel
theorem dX9_pickRule_26 : decode cX9_pickRule 26 = .ok (.getfield 54, 3) := by decide +kernel
theorem dX9_pickRule_29 : decode cX9_pickRule 29 = .ok (.iaload, 1) := by decide +kernel
theorem dX9_pickRule_30 : decode cX9_pickRule 30 = .ok (.iconst 1, 1) := by decide +kernel
theorem dX9_pickRule_31 : decode cX9_pickRule 31 = .ok (.if_icmp .ne 7, 3) := by decide +kernel
theorem dX9_pickRule_34 : decode cX9_pickRule 34 = .ok (.iconst 1, 1) := by decide +kernel
theorem dX9_pickRule_35 : decode cX9_pickRule 35 = .ok (.goto 4, 3) := by decide +kernel
theorem dX9_pickRule_38 : decode cX9_pickRule 38 = .ok (.iconst 0, 1) := by decide +kernel
theorem dX9_pickRule_39 : decode cX9_pickRule 39 = .ok (.istore 4, 2) := by decide +kernel
theorem dX9_pickRule_41 : decode cX9_pickRule 41 = .ok (.iconst 0, 1) := by decide +kernel
theorem dX9_pickRule_42 : decode cX9_pickRule 42 = .ok (.istore 5, 2) := by decide +kernel
theorem dX9_pickRule_44 : decode cX9_pickRule 44 = .ok (.iload 5, 2) := by decide +kernel
theorem dX9_pickRule_46 : decode cX9_pickRule 46 = .ok (.aload_n 1, 1) := by decide +kernel
theorem dX9_pickRule_47 : decode cX9_pickRule 47 = .ok (.getfield 59, 3) := by decide +kernel
theorem dX9_pickRule_50 : decode cX9_pickRule 50 = .ok (.if_icmp .ge 108, 3) := by decide +kernel
theorem dX9_pickRule_53 : decode cX9_pickRule 53 = .ok (.aload_n 1, 1) := by decide +kernel
theorem dX9_pickRule_54 : decode cX9_pickRule 54 = .ok (.getfield 33, 3) := by decide +kernel
theorem dX9_pickRule_57 : decode cX9_pickRule 57 = .ok (.iload 5, 2) := by decide +kernel
theorem dX9_pickRule_59 : decode cX9_pickRule 59 = .ok (.aaload, 1) := by decide +kernel
theorem dX9_pickRule_60 : decode cX9_pickRule 60 = .ok (.astore 6, 2) := by decide +kernel
theorem dX9_pickRule_62 : decode cX9_pickRule 62 = .ok (.aload 6, 2) := by decide +kernel
theorem dX9_pickRule_64 : decode cX9_pickRule 64 = .ok (.getfield 62, 3) := by decide +kernel
theorem dX9_pickRule_67 : decode cX9_pickRule 67 = .ok (.iconst 3, 1) := by decide +kernel
theorem dX9_pickRule_68 : decode cX9_pickRule 68 = .ok (.if_icmp .ne 27, 3) := by decide +kernel
theorem dX9_pickRule_71 : decode cX9_pickRule 71 = .ok (.aload 6, 2) := by decide +kernel
theorem dX9_pickRule_73 : decode cX9_pickRule 73 = .ok (.getfield 67, 3) := by decide +kernel
theorem dX9_pickRule_76 : decode cX9_pickRule 76 = .ok (.aload_n 0, 1) := by decide +kernel
theorem dX9_pickRule_77 : decode cX9_pickRule 77 = .ok (.getfield 15, 3) := by decide +kernel
theorem dX9_pickRule_80 : decode cX9_pickRule 80 = .ok (.if_icmp .eq 19, 3) := by decide +kernel
theorem dX9_pickRule_83 : decode cX9_pickRule 83 = .ok (.aload_n 1, 1) := by decide +kernel
theorem dX9_pickRule_84 : decode cX9_pickRule 84 = .ok (.aload 6, 2) := by decide +kernel
theorem dX9_pickRule_86 : decode cX9_pickRule 86 = .ok (.getfield 67, 3) := by decide +kernel
theorem dX9_pickRule_89 : decode cX9_pickRule 89 = .ok (.invokevirtual 43, 3) := by decide +kernel
theorem dX9_pickRule_92 : decode cX9_pickRule 92 = .ok (.ifCond .eq 7, 3) := by decide +kernel
theorem dX9_pickRule_95 : decode cX9_pickRule 95 = .ok (.iconst 1, 1) := by decide +kernel
theorem dX9_pickRule_96 : decode cX9_pickRule 96 = .ok (.goto 4, 3) := by decide +kernel
theorem dX9_pickRule_99 : decode cX9_pickRule 99 = .ok (.iconst 0, 1) := by decide +kernel
theorem dX9_pickRule_100 : decode cX9_pickRule 100 = .ok (.istore 7, 2) := by decide +kernel
theorem dX9_pickRule_102 : decode cX9_pickRule 102 = .ok (.iload 7, 2) := by decide +kernel
theorem dX9_pickRule_104 : decode cX9_pickRule 104 = .ok (.ifCond .eq 48, 3) := by decide +kernel
theorem dX9_pickRule_107 : decode cX9_pickRule 107 = .ok (.aload_n 0, 1) := by decide +kernel
theorem dX9_pickRule_108 : decode cX9_pickRule 108 = .ok (.getfield 26, 3) := by decide +kernel
theorem dX9_pickRule_111 : decode cX9_pickRule 111 = .ok (.iload 5, 2) := by decide +kernel
theorem dX9_pickRule_113 : decode cX9_pickRule 113 = .ok (.ishr, 1) := by decide +kernel
theorem dX9_pickRule_114 : decode cX9_pickRule 114 = .ok (.iconst 1, 1) := by decide +kernel
theorem dX9_pickRule_115 : decode cX9_pickRule 115 = .ok (.iand, 1) := by decide +kernel
theorem dX9_pickRule_116 : decode cX9_pickRule 116 = .ok (.ifCond .ne 36, 3) := by decide +kernel
theorem dX9_pickRule_119 : decode cX9_pickRule 119 = .ok (.aload_n 2, 1) := by decide +kernel
theorem dX9_pickRule_120 : decode cX9_pickRule 120 = .ok (.aload_n 1, 1) := by decide +kernel
theorem dX9_pickRule_121 : decode cX9_pickRule 121 = .ok (.aload_n 0, 1) := by decide +kernel
theorem dX9_pickRule_122 : decode cX9_pickRule 122 = .ok (.getfield 15, 3) := by decide +kernel
theorem dX9_pickRule_125 : decode cX9_pickRule 125 = .ok (.aload 6, 2) := by decide +kernel
theorem dX9_pickRule_127 : decode cX9_pickRule 127 = .ok (.getfield 70, 3) := by decide +kernel
theorem dX9_pickRule_130 : decode cX9_pickRule 130 = .ok (.aload 6, 2) := by decide +kernel
theorem dX9_pickRule_132 : decode cX9_pickRule 132 = .ok (.getfield 73, 3) := by decide +kernel
theorem dX9_pickRule_135 : decode cX9_pickRule 135 = .ok (.invokevirtual 76, 3) := by decide +kernel
theorem dX9_pickRule_138 : decode cX9_pickRule 138 = .ok (.ifCond .eq 14, 3) := by decide +kernel
theorem dX9_pickRule_141 : decode cX9_pickRule 141 = .ok (.iload 4, 2) := by decide +kernel
theorem dX9_pickRule_143 : decode cX9_pickRule 143 = .ok (.ifCond .ne 6, 3) := by decide +kernel
theorem dX9_pickRule_146 : decode cX9_pickRule 146 = .ok (.iload 5, 2) := by decide +kernel
theorem dX9_pickRule_148 : decode cX9_pickRule 148 = .ok (.ireturn, 1) := by decide +kernel
theorem dX9_pickRule_149 : decode cX9_pickRule 149 = .ok (.iload 5, 2) := by decide +kernel
theorem dX9_pickRule_151 : decode cX9_pickRule 151 = .ok (.istore_n 3, 1) := by decide +kernel
theorem dX9_pickRule_152 : decode cX9_pickRule 152 = .ok (.iinc 5 1, 3) := by decide +kernel
theorem dX9_pickRule_155 : decode cX9_pickRule 155 = .ok (.goto (-111), 3) := by decide +kernel
theorem dX9_pickRule_158 : decode cX9_pickRule 158 = .ok (.iload_n 3, 1) := by decide +kernel
theorem dX9_pickRule_159 : decode cX9_pickRule 159 = .ok (.ireturn, 1) := by decide +kernel
theorem dX9_meet_0 : decode cX9_meet 0 = .ok (.aload_n 0, 1) := by decide +kernel
theorem dX9_meet_1 : decode cX9_meet 1 = .ok (.getfield 9, 3) := by decide +kernel
theorem dX9_meet_4 : decode cX9_meet 4 = .ok (.iload_n 2, 1) := by decide +kernel
theorem dX9_meet_5 : decode cX9_meet 5 = .ok (.iconst 0, 1) := by decide +kernel
theorem dX9_meet_6 : decode cX9_meet 6 = .ok (.iastore, 1) := by decide +kernel
theorem dX9_meet_7 : decode cX9_meet 7 = .ok (.aload_n 1, 1) := by decide +kernel
theorem dX9_meet_8 : decode cX9_meet 8 = .ok (.getfield 62, 3) := by decide +kernel
theorem dX9_meet_11 : decode cX9_meet 11 = .ok (.tableswitch 112 0 3 #[29, 64, 82, 101], 29) := by decide +kernel
theorem dX9_meet_40 : decode cX9_meet 40 = .ok (.aload_n 0, 1) := by decide +kernel
theorem dX9_meet_41 : decode cX9_meet 41 = .ok (.getfield 9, 3) := by decide +kernel
theorem dX9_meet_44 : decode cX9_meet 44 = .ok (.iload_n 2, 1) := by decide +kernel
theorem dX9_meet_45 : decode cX9_meet 45 = .ok (.aload_n 1, 1) := by decide +kernel
theorem dX9_meet_46 : decode cX9_meet 46 = .ok (.getfield 67, 3) := by decide +kernel
theorem dX9_meet_49 : decode cX9_meet 49 = .ok (.aload_n 0, 1) := by decide +kernel
theorem dX9_meet_50 : decode cX9_meet 50 = .ok (.getfield 19, 3) := by decide +kernel
theorem dX9_meet_53 : decode cX9_meet 53 = .ok (.invokestatic 82, 3) := by decide +kernel
theorem dX9_meet_56 : decode cX9_meet 56 = .ok (.iastore, 1) := by decide +kernel
theorem dX9_meet_57 : decode cX9_meet 57 = .ok (.aload_n 0, 1) := by decide +kernel
theorem dX9_meet_58 : decode cX9_meet 58 = .ok (.dup, 1) := by decide +kernel
theorem dX9_meet_59 : decode cX9_meet 59 = .ok (.getfield 19, 3) := by decide +kernel
theorem dX9_meet_62 : decode cX9_meet 62 = .ok (.aload_n 0, 1) := by decide +kernel
theorem dX9_meet_63 : decode cX9_meet 63 = .ok (.getfield 9, 3) := by decide +kernel
theorem dX9_meet_66 : decode cX9_meet 66 = .ok (.iload_n 2, 1) := by decide +kernel
theorem dX9_meet_67 : decode cX9_meet 67 = .ok (.iaload, 1) := by decide +kernel
theorem dX9_meet_68 : decode cX9_meet 68 = .ok (.isub, 1) := by decide +kernel
theorem dX9_meet_69 : decode cX9_meet 69 = .ok (.putfield 19, 3) := by decide +kernel
theorem dX9_meet_72 : decode cX9_meet 72 = .ok (.goto 56, 3) := by decide +kernel
theorem dX9_meet_75 : decode cX9_meet 75 = .ok (.aload_n 0, 1) := by decide +kernel
theorem dX9_meet_76 : decode cX9_meet 76 = .ok (.dup, 1) := by decide +kernel
theorem dX9_meet_77 : decode cX9_meet 77 = .ok (.getfield 19, 3) := by decide +kernel
theorem dX9_meet_80 : decode cX9_meet 80 = .ok (.aload_n 0, 1) := by decide +kernel
theorem dX9_meet_81 : decode cX9_meet 81 = .ok (.getfield 19, 3) := by decide +kernel
theorem dX9_meet_84 : decode cX9_meet 84 = .ok (.iconst 2, 1) := by decide +kernel
theorem dX9_meet_85 : decode cX9_meet 85 = .ok (.idiv, 1) := by decide +kernel
theorem dX9_meet_86 : decode cX9_meet 86 = .ok (.isub, 1) := by decide +kernel
theorem dX9_meet_87 : decode cX9_meet 87 = .ok (.putfield 19, 3) := by decide +kernel
theorem dX9_meet_90 : decode cX9_meet 90 = .ok (.goto 38, 3) := by decide +kernel
theorem dX9_meet_93 : decode cX9_meet 93 = .ok (.aload_n 0, 1) := by decide +kernel
theorem dX9_meet_94 : decode cX9_meet 94 = .ok (.sipush 999, 3) := by decide +kernel
theorem dX9_meet_97 : decode cX9_meet 97 = .ok (.aload_n 0, 1) := by decide +kernel
theorem dX9_meet_98 : decode cX9_meet 98 = .ok (.getfield 19, 3) := by decide +kernel
theorem dX9_meet_101 : decode cX9_meet 101 = .ok (.iconst 2, 1) := by decide +kernel
theorem dX9_meet_102 : decode cX9_meet 102 = .ok (.imul, 1) := by decide +kernel
theorem dX9_meet_103 : decode cX9_meet 103 = .ok (.invokestatic 82, 3) := by decide +kernel
theorem dX9_meet_106 : decode cX9_meet 106 = .ok (.putfield 19, 3) := by decide +kernel
theorem dX9_meet_109 : decode cX9_meet 109 = .ok (.goto 19, 3) := by decide +kernel
theorem dX9_meet_112 : decode cX9_meet 112 = .ok (.aload_n 0, 1) := by decide +kernel
theorem dX9_meet_113 : decode cX9_meet 113 = .ok (.aload_n 1, 1) := by decide +kernel
theorem dX9_meet_114 : decode cX9_meet 114 = .ok (.getfield 67, 3) := by decide +kernel
theorem dX9_meet_117 : decode cX9_meet 117 = .ok (.putfield 15, 3) := by decide +kernel
theorem dX9_meet_120 : decode cX9_meet 120 = .ok (.goto 8, 3) := by decide +kernel
theorem dX9_meet_123 : decode cX9_meet 123 = .ok (.aload_n 0, 1) := by decide +kernel
theorem dX9_meet_124 : decode cX9_meet 124 = .ok (.iconst 1, 1) := by decide +kernel
theorem dX9_meet_125 : decode cX9_meet 125 = .ok (.putfield 22, 3) := by decide +kernel
theorem dX9_meet_128 : decode cX9_meet 128 = .ok (.return_, 1) := by decide +kernel
