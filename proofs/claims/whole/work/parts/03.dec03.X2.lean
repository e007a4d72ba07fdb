theorem dX2_init_0 : decode cX2_init 0 = .ok (.aload_n 0, 1) := by decide +kernel
theorem dX2_init_1 : decode cX2_init 1 = .ok (.invokespecial 3, 3) := by decide +kernel
theorem dX2_init_4 : decode cX2_init 4 = .ok (.aload_n 0, 1) := by decide +kernel
theorem dX2_init_5 : decode cX2_init 5 = .ok (.bipush 8, 2) := by decide +kernel
theorem dX2_init_7 : decode cX2_init 7 = .ok (.newarray .int, 2) := by decide +kernel
theorem dX2_init_9 : decode cX2_init 9 = .ok (.putfield 9, 3) := by decide +kernel
theorem dX2_init_12 : decode cX2_init 12 = .ok (.aload_n 0, 1) := by decide +kernel
theorem dX2_init_13 : decode cX2_init 13 = .ok (.bipush 8, 2) := by decide +kernel
theorem dX2_init_15 : decode cX2_init 15 = .ok (.newarray .int, 2) := by decide +kernel
theorem dX2_init_17 : decode cX2_init 17 = .ok (.putfield 15, 3) := by decide +kernel
theorem dX2_init_20 : decode cX2_init 20 = .ok (.aload_n 0, 1) := by decide +kernel
theorem dX2_init_21 : decode cX2_init 21 = .ok (.bipush 8, 2) := by decide +kernel
theorem dX2_init_23 : decode cX2_init 23 = .ok (.newarray .int, 2) := by decide +kernel
theorem dX2_init_25 : decode cX2_init 25 = .ok (.putfield 18, 3) := by decide +kernel
theorem dX2_init_28 : decode cX2_init 28 = .ok (.aload_n 0, 1) := by decide +kernel
theorem dX2_init_29 : decode cX2_init 29 = .ok (.bipush 8, 2) := by decide +kernel
theorem dX2_init_31 : decode cX2_init 31 = .ok (.newarray .int, 2) := by decide +kernel
theorem dX2_init_33 : decode cX2_init 33 = .ok (.putfield 21, 3) := by decide +kernel
theorem dX2_init_36 : decode cX2_init 36 = .ok (.aload_n 0, 1) := by decide +kernel
theorem dX2_init_37 : decode cX2_init 37 = .ok (.bipush 10, 2) := by decide +kernel
theorem dX2_init_39 : decode cX2_init 39 = .ok (.newarray .int, 2) := by decide +kernel
theorem dX2_init_41 : decode cX2_init 41 = .ok (.putfield 24, 3) := by decide +kernel
theorem dX2_init_44 : decode cX2_init 44 = .ok (.return_, 1) := by decide +kernel
theorem dX2_make_0 : decode cX2_make 0 = .ok (.iconst 0, 1) := by decide +kernel
theorem dX2_make_1 : decode cX2_make 1 = .ok (.istore_n 3, 1) := by decide +kernel
theorem dX2_make_2 : decode cX2_make 2 = .ok (.iload_n 3, 1) := by decide +kernel
theorem dX2_make_3 : decode cX2_make 3 = .ok (.aload_n 1, 1) := by decide +kernel
theorem dX2_make_4 : decode cX2_make 4 = .ok (.getfield 27, 3) := by decide +kernel
theorem dX2_make_7 : decode cX2_make 7 = .ok (.if_icmp .ge 61, 3) := by decide +kernel
theorem dX2_make_10 : decode cX2_make 10 = .ok (.aload_n 0, 1) := by decide +kernel
theorem dX2_make_11 : decode cX2_make 11 = .ok (.getfield 9, 3) := by decide +kernel
theorem dX2_make_14 : decode cX2_make 14 = .ok (.iload_n 3, 1) := by decide +kernel
theorem dX2_make_15 : decode cX2_make 15 = .ok (.aload_n 1, 1) := by decide +kernel
theorem dX2_make_16 : decode cX2_make 16 = .ok (.getfield 33, 3) := by decide +kernel
theorem dX2_make_19 : decode cX2_make 19 = .ok (.iload_n 3, 1) := by decide +kernel
theorem dX2_make_20 : decode cX2_make 20 = .ok (.aaload, 1) := by decide +kernel
theorem dX2_make_21 : decode cX2_make 21 = .ok (.getfield 37, 3) := by decide +kernel
theorem dX2_make_24 : decode cX2_make 24 = .ok (.iastore, 1) := by decide +kernel
theorem dX2_make_25 : decode cX2_make 25 = .ok (.aload_n 0, 1) := by decide +kernel
theorem dX2_make_26 : decode cX2_make 26 = .ok (.getfield 15, 3) := by decide +kernel
theorem dX2_make_29 : decode cX2_make 29 = .ok (.iload_n 3, 1) := by decide +kernel
theorem dX2_make_30 : decode cX2_make 30 = .ok (.iconst 0, 1) := by decide +kernel
theorem dX2_make_31 : decode cX2_make 31 = .ok (.iastore, 1) := by decide +kernel
theorem dX2_make_32 : decode cX2_make 32 = .ok (.aload_n 0, 1) := by decide +kernel
theorem dX2_make_33 : decode cX2_make 33 = .ok (.getfield 18, 3) := by decide +kernel
theorem dX2_make_36 : decode cX2_make 36 = .ok (.iload_n 3, 1) := by decide +kernel
theorem dX2_make_37 : decode cX2_make 37 = .ok (.aload_n 1, 1) := by decide +kernel
theorem dX2_make_38 : decode cX2_make 38 = .ok (.getfield 33, 3) := by decide +kernel
theorem dX2_make_41 : decode cX2_make 41 = .ok (.iload_n 3, 1) := by decide +kernel
theorem dX2_make_42 : decode cX2_make 42 = .ok (.aaload, 1) := by decide +kernel
theorem dX2_make_43 : decode cX2_make 43 = .ok (.getfield 41, 3) := by decide +kernel
theorem dX2_make_46 : decode cX2_make 46 = .ok (.iastore, 1) := by decide +kernel
theorem dX2_make_47 : decode cX2_make 47 = .ok (.aload_n 0, 1) := by decide +kernel
theorem dX2_make_48 : decode cX2_make 48 = .ok (.getfield 21, 3) := by decide +kernel
theorem dX2_make_51 : decode cX2_make 51 = .ok (.iload_n 3, 1) := by decide +kernel
theorem dX2_make_52 : decode cX2_make 52 = .ok (.aload_n 1, 1) := by decide +kernel
theorem dX2_make_53 : decode cX2_make 53 = .ok (.getfield 33, 3) := by decide +kernel
theorem dX2_make_56 : decode cX2_make 56 = .ok (.iload_n 3, 1) := by decide +kernel
theorem dX2_make_57 : decode cX2_make 57 = .ok (.aaload, 1) := by decide +kernel
theorem dX2_make_58 : decode cX2_make 58 = .ok (.getfield 43, 3) := by decide +kernel
theorem dX2_make_61 : decode cX2_make 61 = .ok (.iastore, 1) := by decide +kernel
theorem dX2_make_62 : decode cX2_make 62 = .ok (.iinc 3 1, 3) := by decide +kernel
theorem dX2_make_65 : decode cX2_make 65 = .ok (.goto (-63), 3) := by decide +kernel
theorem dX2_make_68 : decode cX2_make 68 = .ok (.aload_n 0, 1) := by decide +kernel
theorem dX2_make_69 : decode cX2_make 69 = .ok (.iconst 0, 1) := by decide +kernel
theorem dX2_make_70 : decode cX2_make 70 = .ok (.putfield 45, 3) := by decide +kernel
theorem dX2_make_73 : decode cX2_make 73 = .ok (.iconst 0, 1) := by decide +kernel
theorem dX2_make_74 : decode cX2_make 74 = .ok (.istore_n 3, 1) := by decide +kernel
theorem dX2_make_75 : decode cX2_make 75 = .ok (.iload_n 3, 1) := by decide +kernel
theorem dX2_make_76 : decode cX2_make 76 = .ok (.iload_n 2, 1) := by decide +kernel
theorem dX2_make_77 : decode cX2_make 77 = .ok (.if_icmp .ge 80, 3) := by decide +kernel
theorem dX2_make_80 : decode cX2_make 80 = .ok (.iload_n 3, 1) := by decide +kernel
theorem dX2_make_81 : decode cX2_make 81 = .ok (.iconst 5, 1) := by decide +kernel
theorem dX2_make_82 : decode cX2_make 82 = .ok (.if_icmp .ge 75, 3) := by decide +kernel
theorem dX2_make_85 : decode cX2_make 85 = .ok (.aload_n 1, 1) := by decide +kernel
theorem dX2_make_86 : decode cX2_make 86 = .ok (.iload_n 3, 1) := by decide +kernel
theorem dX2_make_87 : decode cX2_make 87 = .ok (.invokevirtual 48, 3) := by decide +kernel
theorem dX2_make_90 : decode cX2_make 90 = .ok (.istore 4, 2) := by decide +kernel
theorem dX2_make_92 : decode cX2_make 92 = .ok (.iconst 0, 1) := by decide +kernel
theorem dX2_make_93 : decode cX2_make 93 = .ok (.istore 5, 2) := by decide +kernel
theorem dX2_make_95 : decode cX2_make 95 = .ok (.iload 5, 2) := by decide +kernel
theorem dX2_make_97 : decode cX2_make 97 = .ok (.bipush 10, 2) := by decide +kernel
theorem dX2_make_99 : decode cX2_make 99 = .ok (.if_icmp .ge 52, 3) := by decide +kernel
theorem dX2_make_102 : decode cX2_make 102 = .ok (.iload 4, 2) := by decide +kernel
theorem dX2_make_104 : decode cX2_make 104 = .ok (.ifCond .eq 47, 3) := by decide +kernel
theorem dX2_make_107 : decode cX2_make 107 = .ok (.aload_n 0, 1) := by decide +kernel
theorem dX2_make_108 : decode cX2_make 108 = .ok (.aload_n 1, 1) := by decide +kernel
theorem dX2_make_109 : decode cX2_make 109 = .ok (.iload 4, 2) := by decide +kernel
theorem dX2_make_111 : decode cX2_make 111 = .ok (.invokevirtual 52, 3) := by decide +kernel
theorem dX2_make_114 : decode cX2_make 114 = .ok (.istore 6, 2) := by decide +kernel
theorem dX2_make_116 : decode cX2_make 116 = .ok (.aload_n 0, 1) := by decide +kernel
theorem dX2_make_117 : decode cX2_make 117 = .ok (.aload_n 1, 1) := by decide +kernel
theorem dX2_make_118 : decode cX2_make 118 = .ok (.aload_n 1, 1) := by decide +kernel
theorem dX2_make_119 : decode cX2_make 119 = .ok (.getfield 56, 3) := by decide +kernel
theorem dX2_make_122 : decode cX2_make 122 = .ok (.iload 6, 2) := by decide +kernel
theorem dX2_make_124 : decode cX2_make 124 = .ok (.aaload, 1) := by decide +kernel
theorem dX2_make_125 : decode cX2_make 125 = .ok (.invokevirtual 60, 3) := by decide +kernel
theorem dX2_make_128 : decode cX2_make 128 = .ok (.aload_n 0, 1) := by decide +kernel
theorem dX2_make_129 : decode cX2_make 129 = .ok (.iload 6, 2) := by decide +kernel
theorem dX2_make_131 : decode cX2_make 131 = .ok (.invokevirtual 64, 3) := by decide +kernel
theorem dX2_make_134 : decode cX2_make 134 = .ok (.iload 4, 2) := by decide +kernel
theorem dX2_make_136 : decode cX2_make 136 = .ok (.iconst 1, 1) := by decide +kernel
theorem dX2_make_137 : decode cX2_make 137 = .ok (.iload 6, 2) := by decide +kernel
theorem dX2_make_139 : decode cX2_make 139 = .ok (.ishl, 1) := by decide +kernel
theorem dX2_make_140 : decode cX2_make 140 = .ok (.iconst (-1), 1) := by decide +kernel
theorem dX2_make_141 : decode cX2_make 141 = .ok (.ixor, 1) := by decide +kernel
theorem dX2_make_142 : decode cX2_make 142 = .ok (.iand, 1) := by decide +kernel
theorem dX2_make_143 : decode cX2_make 143 = .ok (.istore 4, 2) := by decide +kernel
theorem dX2_make_145 : decode cX2_make 145 = .ok (.iinc 5 1, 3) := by decide +kernel
theorem dX2_make_148 : decode cX2_make 148 = .ok (.goto (-53), 3) := by decide +kernel
theorem dX2_make_151 : decode cX2_make 151 = .ok (.iinc 3 1, 3) := by decide +kernel
theorem dX2_make_154 : decode cX2_make 154 = .ok (.goto (-79), 3) := by decide +kernel
theorem dX2_make_157 : decode cX2_make 157 = .ok (.return_, 1) := by decide +kernel
theorem dX2_record_0 : decode cX2_record 0 = .ok (.aload_n 0, 1) := by decide +kernel
theorem dX2_record_1 : decode cX2_record 1 = .ok (.getfield 45, 3) := by decide +kernel
theorem dX2_record_4 : decode cX2_record 4 = .ok (.bipush 10, 2) := by decide +kernel
theorem dX2_record_6 : decode cX2_record 6 = .ok (.if_icmp .ge 23, 3) := by decide +kernel
theorem dX2_record_9 : decode cX2_record 9 = .ok (.aload_n 0, 1) := by decide +kernel
theorem dX2_record_10 : decode cX2_record 10 = .ok (.getfield 24, 3) := by decide +kernel
theorem dX2_record_13 : decode cX2_record 13 = .ok (.aload_n 0, 1) := by decide +kernel
theorem dX2_record_14 : decode cX2_record 14 = .ok (.getfield 45, 3) := by decide +kernel
theorem dX2_record_17 : decode cX2_record 17 = .ok (.iload_n 1, 1) := by decide +kernel
theorem dX2_record_18 : decode cX2_record 18 = .ok (.iastore, 1) := by decide +kernel
theorem dX2_record_19 : decode cX2_record 19 = .ok (.aload_n 0, 1) := by decide +kernel
theorem dX2_record_20 : decode cX2_record 20 = .ok (.dup, 1) := by decide +kernel
theorem dX2_record_21 : decode cX2_record 21 = .ok (.getfield 45, 3) := by decide +kernel
theorem dX2_record_24 : decode cX2_record 24 = .ok (.iconst 1, 1) := by decide +kernel
theorem dX2_record_25 : decode cX2_record 25 = .ok (.iadd, 1) := by decide +kernel
theorem dX2_record_26 : decode cX2_record 26 = .ok (.putfield 45, 3) := by decide +kernel
theorem dX2_record_29 : decode cX2_record 29 = .ok (.return_, 1) := by decide +kernel
theorem dX2_pick_0 : decode cX2_pick 0 = .ok (.iconst 0, 1) := by decide +kernel
theorem dX2_pick_1 : decode cX2_pick 1 = .ok (.istore_n 3, 1) := by decide +kernel
theorem dX2_pick_2 : decode cX2_pick 2 = .ok (.iload_n 3, 1) := by decide +kernel
theorem dX2_pick_3 : decode cX2_pick 3 = .ok (.aload_n 1, 1) := by decide +kernel
theorem dX2_pick_4 : decode cX2_pick 4 = .ok (.getfield 68, 3) := by decide +kernel
theorem dX2_pick_7 : decode cX2_pick 7 = .ok (.if_icmp .ge 109, 3) := by decide +kernel
theorem dX2_pick_10 : decode cX2_pick 10 = .ok (.iload_n 2, 1) := by decide +kernel
theorem dX2_pick_11 : decode cX2_pick 11 = .ok (.iload_n 3, 1) := by decide +kernel
theorem dX2_pick_12 : decode cX2_pick 12 = .ok (.ishr, 1) := by decide +kernel
theorem dX2_pick_13 : decode cX2_pick 13 = .ok (.iconst 1, 1) := by decide +kernel
theorem dX2_pick_14 : decode cX2_pick 14 = .ok (.iand, 1) := by decide +kernel
theorem dX2_pick_15 : decode cX2_pick 15 = .ok (.ifCond .eq 7, 3) := by decide +kernel
theorem dX2_pick_18 : decode cX2_pick 18 = .ok (.iconst 1, 1) := by decide +kernel
theorem dX2_pick_19 : decode cX2_pick 19 = .ok (.goto 4, 3) := by decide +kernel
theorem dX2_pick_22 : decode cX2_pick 22 = .ok (.iconst 0, 1) := by decide +kernel
theorem dX2_pick_23 : decode cX2_pick 23 = .ok (.istore 4, 2) := by decide +kernel
theorem dX2_pick_25 : decode cX2_pick 25 = .ok (.iconst 0, 1) := by decide +kernel
theorem dX2_pick_26 : decode cX2_pick 26 = .ok (.istore 5, 2) := by decide +kernel
theorem dX2_pick_28 : decode cX2_pick 28 = .ok (.iload 4, 2) := by decide +kernel
theorem dX2_pick_30 : decode cX2_pick 30 = .ok (.ifCond .eq 73, 3) := by decide +kernel
theorem dX2_pick_33 : decode cX2_pick 33 = .ok (.iload 5, 2) := by decide +kernel
theorem dX2_pick_35 : decode cX2_pick 35 = .ok (.aload_n 1, 1) := by decide +kernel
theorem dX2_pick_36 : decode cX2_pick 36 = .ok (.getfield 68, 3) := by decide +kernel
theorem dX2_pick_39 : decode cX2_pick 39 = .ok (.if_icmp .ge 64, 3) := by decide +kernel
theorem dX2_pick_42 : decode cX2_pick 42 = .ok (.iload 5, 2) := by decide +kernel
theorem dX2_pick_44 : decode cX2_pick 44 = .ok (.iload_n 3, 1) := by decide +kernel
theorem dX2_pick_45 : decode cX2_pick 45 = .ok (.if_icmp .eq 16, 3) := by decide +kernel
theorem dX2_pick_48 : decode cX2_pick 48 = .ok (.iload_n 2, 1) := by decide +kernel
theorem dX2_pick_49 : decode cX2_pick 49 = .ok (.iload 5, 2) := by decide +kernel
theorem dX2_pick_51 : decode cX2_pick 51 = .ok (.ishr, 1) := by decide +kernel
theorem dX2_pick_52 : decode cX2_pick 52 = .ok (.iconst 1, 1) := by decide +kernel
theorem dX2_pick_53 : decode cX2_pick 53 = .ok (.iand, 1) := by decide +kernel
theorem dX2_pick_54 : decode cX2_pick 54 = .ok (.ifCond .eq 7, 3) := by decide +kernel
theorem dX2_pick_57 : decode cX2_pick 57 = .ok (.iconst 1, 1) := by decide +kernel
theorem dX2_pick_58 : decode cX2_pick 58 = .ok (.goto 4, 3) := by decide +kernel
theorem dX2_pick_61 : decode cX2_pick 61 = .ok (.iconst 0, 1) := by decide +kernel
theorem dX2_pick_62 : decode cX2_pick 62 = .ok (.istore 6, 2) := by decide +kernel
theorem dX2_pick_64 : decode cX2_pick 64 = .ok (.iload 6, 2) := by decide +kernel
theorem dX2_pick_66 : decode cX2_pick 66 = .ok (.ifCond .eq 24, 3) := by decide +kernel
theorem dX2_pick_69 : decode cX2_pick 69 = .ok (.aload_n 0, 1) := by decide +kernel
theorem dX2_pick_70 : decode cX2_pick 70 = .ok (.aload_n 1, 1) := by decide +kernel
theorem dX2_pick_71 : decode cX2_pick 71 = .ok (.aload_n 1, 1) := by decide +kernel
theorem dX2_pick_72 : decode cX2_pick 72 = .ok (.getfield 56, 3) := by decide +kernel
theorem dX2_pick_75 : decode cX2_pick 75 = .ok (.iload_n 3, 1) := by decide +kernel
theorem dX2_pick_76 : decode cX2_pick 76 = .ok (.aaload, 1) := by decide +kernel
theorem dX2_pick_77 : decode cX2_pick 77 = .ok (.aload_n 1, 1) := by decide +kernel
theorem dX2_pick_78 : decode cX2_pick 78 = .ok (.getfield 56, 3) := by decide +kernel
theorem dX2_pick_81 : decode cX2_pick 81 = .ok (.iload 5, 2) := by decide +kernel
theorem dX2_pick_83 : decode cX2_pick 83 = .ok (.aaload, 1) := by decide +kernel
theorem dX2_pick_84 : decode cX2_pick 84 = .ok (.invokevirtual 71, 3) := by decide +kernel
theorem dX2_pick_87 : decode cX2_pick 87 = .ok (.ifCond .ne 7, 3) := by decide +kernel
theorem dX2_pick_90 : decode cX2_pick 90 = .ok (.iconst 1, 1) := by decide +kernel
theorem dX2_pick_91 : decode cX2_pick 91 = .ok (.goto 4, 3) := by decide +kernel
theorem dX2_pick_94 : decode cX2_pick 94 = .ok (.iconst 0, 1) := by decide +kernel
theorem dX2_pick_95 : decode cX2_pick 95 = .ok (.istore 4, 2) := by decide +kernel
theorem dX2_pick_97 : decode cX2_pick 97 = .ok (.iinc 5 1, 3) := by decide +kernel
theorem dX2_pick_100 : decode cX2_pick 100 = .ok (.goto (-72), 3) := by decide +kernel
theorem dX2_pick_103 : decode cX2_pick 103 = .ok (.iload 4, 2) := by decide +kernel
theorem dX2_pick_105 : decode cX2_pick 105 = .ok (.ifCond .eq 5, 3) := by decide +kernel
theorem dX2_pick_108 : decode cX2_pick 108 = .ok (.iload_n 3, 1) := by decide +kernel
theorem dX2_pick_109 : decode cX2_pick 109 = .ok (.ireturn, 1) := by decide +kernel
theorem dX2_pick_110 : decode cX2_pick 110 = .ok (.iinc 3 1, 3) := by decide +kernel
theorem dX2_pick_113 : decode cX2_pick 113 = .ok (.goto (-111), 3) := by decide +kernel
theorem dX2_pick_116 : decode cX2_pick 116 = .ok (.iload_n 2, 1) := by decide +kernel
theorem dX2_pick_117 : decode cX2_pick 117 = .ok (.invokestatic 75, 3) := by decide +kernel
theorem dX2_pick_120 : decode cX2_pick 120 = .ok (.bipush 9, 2) := by decide +kernel
theorem dX2_pick_122 : decode cX2_pick 122 = .ok (.invokestatic 80, 3) := by decide +kernel
theorem dX2_pick_125 : decode cX2_pick 125 = .ok (.ireturn, 1) := by decide +kernel
theorem dX2_needs_0 : decode cX2_needs 0 = .ok (.iconst 0, 1) := by decide +kernel
theorem dX2_needs_1 : decode cX2_needs 1 = .ok (.istore 4, 2) := by decide +kernel
theorem dX2_needs_3 : decode cX2_needs 3 = .ok (.iload 4, 2) := by decide +kernel
theorem dX2_needs_5 : decode cX2_needs 5 = .ok (.aload_n 1, 1) := by decide +kernel
theorem dX2_needs_6 : decode cX2_needs 6 = .ok (.getfield 27, 3) := by decide +kernel
theorem dX2_needs_9 : decode cX2_needs 9 = .ok (.if_icmp .ge 89, 3) := by decide +kernel
theorem dX2_needs_12 : decode cX2_needs 12 = .ok (.aload_n 0, 1) := by decide +kernel
theorem dX2_needs_13 : decode cX2_needs 13 = .ok (.aload_n 1, 1) := by decide +kernel
theorem dX2_needs_14 : decode cX2_needs 14 = .ok (.iload 4, 2) := by decide +kernel
theorem dX2_needs_16 : decode cX2_needs 16 = .ok (.aload_n 3, 1) := by decide +kernel
theorem dX2_needs_17 : decode cX2_needs 17 = .ok (.getfield 86, 3) := by decide +kernel
theorem dX2_needs_20 : decode cX2_needs 20 = .ok (.aload_n 3, 1) := by decide +kernel
theorem dX2_needs_21 : decode cX2_needs 21 = .ok (.getfield 91, 3) := by decide +kernel
theorem dX2_needs_24 : decode cX2_needs 24 = .ok (.invokevirtual 94, 3) := by decide +kernel
theorem dX2_needs_27 : decode cX2_needs 27 = .ok (.ifCond .eq 65, 3) := by decide +kernel
theorem dX2_needs_30 : decode cX2_needs 30 = .ok (.aload_n 0, 1) := by decide +kernel
theorem dX2_needs_31 : decode cX2_needs 31 = .ok (.aload_n 3, 1) := by decide +kernel
theorem dX2_needs_32 : decode cX2_needs 32 = .ok (.iload 4, 2) := by decide +kernel
theorem dX2_needs_34 : decode cX2_needs 34 = .ok (.invokevirtual 98, 3) := by decide +kernel
theorem dX2_needs_37 : decode cX2_needs 37 = .ok (.istore 5, 2) := by decide +kernel
theorem dX2_needs_39 : decode cX2_needs 39 = .ok (.aload_n 0, 1) := by decide +kernel
theorem dX2_needs_40 : decode cX2_needs 40 = .ok (.aload_n 3, 1) := by decide +kernel
theorem dX2_needs_41 : decode cX2_needs 41 = .ok (.iload 4, 2) := by decide +kernel
theorem dX2_needs_43 : decode cX2_needs 43 = .ok (.invokevirtual 102, 3) := by decide +kernel
theorem dX2_needs_46 : decode cX2_needs 46 = .ok (.istore 6, 2) := by decide +kernel
theorem dX2_needs_48 : decode cX2_needs 48 = .ok (.aload_n 0, 1) := by decide +kernel
theorem dX2_needs_49 : decode cX2_needs 49 = .ok (.aload_n 1, 1) := by decide +kernel
theorem dX2_needs_50 : decode cX2_needs 50 = .ok (.iload 4, 2) := by decide +kernel
theorem dX2_needs_52 : decode cX2_needs 52 = .ok (.aload_n 2, 1) := by decide +kernel
theorem dX2_needs_53 : decode cX2_needs 53 = .ok (.getfield 86, 3) := by decide +kernel
theorem dX2_needs_56 : decode cX2_needs 56 = .ok (.aload_n 2, 1) := by decide +kernel
theorem dX2_needs_57 : decode cX2_needs 57 = .ok (.getfield 91, 3) := by decide +kernel
theorem dX2_needs_60 : decode cX2_needs 60 = .ok (.invokevirtual 94, 3) := by decide +kernel
theorem dX2_needs_63 : decode cX2_needs 63 = .ok (.aload_n 1, 1) := by decide +kernel
theorem dX2_needs_64 : decode cX2_needs 64 = .ok (.getfield 33, 3) := by decide +kernel
theorem dX2_needs_67 : decode cX2_needs 67 = .ok (.iload 4, 2) := by decide +kernel
theorem dX2_needs_69 : decode cX2_needs 69 = .ok (.aaload, 1) := by decide +kernel
theorem dX2_needs_70 : decode cX2_needs 70 = .ok (.iload 4, 2) := by decide +kernel
theorem dX2_needs_72 : decode cX2_needs 72 = .ok (.aload_n 2, 1) := by decide +kernel
theorem dX2_needs_73 : decode cX2_needs 73 = .ok (.getfield 86, 3) := by decide +kernel
theorem dX2_needs_76 : decode cX2_needs 76 = .ok (.aload_n 2, 1) := by decide +kernel
theorem dX2_needs_77 : decode cX2_needs 77 = .ok (.getfield 91, 3) := by decide +kernel
theorem dX2_needs_80 : decode cX2_needs 80 = .ok (.iload 5, 2) := by decide +kernel
theorem dX2_needs_82 : decode cX2_needs 82 = .ok (.iload 6, 2) := by decide +kernel
theorem dX2_needs_84 : decode cX2_needs 84 = .ok (.invokestatic 105, 3) := by decide +kernel
theorem dX2_needs_87 : decode cX2_needs 87 = .ok (.if_icmp .eq 5, 3) := by decide +kernel
theorem dX2_needs_90 : decode cX2_needs 90 = .ok (.iconst 1, 1) := by decide +kernel
theorem dX2_needs_91 : decode cX2_needs 91 = .ok (.ireturn, 1) := by decide +kernel
theorem dX2_needs_92 : decode cX2_needs 92 = .ok (.iinc 4 1, 3) := by decide +kernel
theorem dX2_needs_95 : decode cX2_needs 95 = .ok (.goto (-92), 3) := by decide +kernel
theorem dX2_needs_98 : decode cX2_needs 98 = .ok (.iconst 0, 1) := by decide +kernel
theorem dX2_needs_99 : decode cX2_needs 99 = .ok (.ireturn, 1) := by decide +kernel
theorem dX2_typeUnder_0 : decode cX2_typeUnder 0 = .ok (.aload_n 1, 1) := by decide +kernel
theorem dX2_typeUnder_1 : decode cX2_typeUnder 1 = .ok (.getfield 109, 3) := by decide +kernel
theorem dX2_typeUnder_4 : decode cX2_typeUnder 4 = .ok (.ifCond .ne 10, 3) := by decide +kernel
theorem dX2_typeUnder_7 : decode cX2_typeUnder 7 = .ok (.aload_n 1, 1) := by decide +kernel
theorem dX2_typeUnder_8 : decode cX2_typeUnder 8 = .ok (.getfield 112, 3) := by decide +kernel
theorem dX2_typeUnder_11 : decode cX2_typeUnder 11 = .ok (.goto 9, 3) := by decide +kernel
theorem dX2_typeUnder_14 : decode cX2_typeUnder 14 = .ok (.aload_n 0, 1) := by decide +kernel
theorem dX2_typeUnder_15 : decode cX2_typeUnder 15 = .ok (.getfield 9, 3) := by decide +kernel
theorem dX2_typeUnder_18 : decode cX2_typeUnder 18 = .ok (.iload_n 2, 1) := by decide +kernel
theorem dX2_typeUnder_19 : decode cX2_typeUnder 19 = .ok (.iaload, 1) := by decide +kernel
theorem dX2_typeUnder_20 : decode cX2_typeUnder 20 = .ok (.ireturn, 1) := by decide +kernel
theorem dX2_marksUnder_0 : decode cX2_marksUnder 0 = .ok (.aload_n 1, 1) := by decide +kernel
theorem dX2_marksUnder_1 : decode cX2_marksUnder 1 = .ok (.getfield 109, 3) := by decide +kernel
theorem dX2_marksUnder_4 : decode cX2_marksUnder 4 = .ok (.iconst 1, 1) := by decide +kernel
theorem dX2_marksUnder_5 : decode cX2_marksUnder 5 = .ok (.if_icmp .ne 17, 3) := by decide +kernel
theorem dX2_marksUnder_8 : decode cX2_marksUnder 8 = .ok (.aload_n 0, 1) := by decide +kernel
theorem dX2_marksUnder_9 : decode cX2_marksUnder 9 = .ok (.getfield 15, 3) := by decide +kernel
theorem dX2_marksUnder_12 : decode cX2_marksUnder 12 = .ok (.iload_n 2, 1) := by decide +kernel
theorem dX2_marksUnder_13 : decode cX2_marksUnder 13 = .ok (.iaload, 1) := by decide +kernel
theorem dX2_marksUnder_14 : decode cX2_marksUnder 14 = .ok (.iconst 1, 1) := by decide +kernel
theorem dX2_marksUnder_15 : decode cX2_marksUnder 15 = .ok (.aload_n 1, 1) := by decide +kernel
theorem dX2_marksUnder_16 : decode cX2_marksUnder 16 = .ok (.getfield 112, 3) := by decide +kernel
theorem dX2_marksUnder_19 : decode cX2_marksUnder 19 = .ok (.ishl, 1) := by decide +kernel
theorem dX2_marksUnder_20 : decode cX2_marksUnder 20 = .ok (.ior, 1) := by decide +kernel
theorem dX2_marksUnder_21 : decode cX2_marksUnder 21 = .ok (.ireturn, 1) := by decide +kernel
theorem dX2_marksUnder_22 : decode cX2_marksUnder 22 = .ok (.aload_n 1, 1) := by decide +kernel
theorem dX2_marksUnder_23 : decode cX2_marksUnder 23 = .ok (.getfield 109, 3) := by decide +kernel
theorem dX2_marksUnder_26 : decode cX2_marksUnder 26 = .ok (.iconst 2, 1) := by decide +kernel
theorem dX2_marksUnder_27 : decode cX2_marksUnder 27 = .ok (.if_icmp .ne 21, 3) := by decide +kernel
theorem dX2_marksUnder_30 : decode cX2_marksUnder 30 = .ok (.aload_n 0, 1) := by decide +kernel
theorem dX2_marksUnder_31 : decode cX2_marksUnder 31 = .ok (.getfield 15, 3) := by decide +kernel
theorem dX2_marksUnder_34 : decode cX2_marksUnder 34 = .ok (.iload_n 2, 1) := by decide +kernel
theorem dX2_marksUnder_35 : decode cX2_marksUnder 35 = .ok (.iaload, 1) := by decide +kernel
theorem dX2_marksUnder_36 : decode cX2_marksUnder 36 = .ok (.iconst 1, 1) := by decide +kernel
theorem dX2_marksUnder_37 : decode cX2_marksUnder 37 = .ok (.aload_n 1, 1) := by decide +kernel
theorem dX2_marksUnder_38 : decode cX2_marksUnder 38 = .ok (.getfield 112, 3) := by decide +kernel
theorem dX2_marksUnder_41 : decode cX2_marksUnder 41 = .ok (.ishl, 1) := by decide +kernel
theorem dX2_marksUnder_42 : decode cX2_marksUnder 42 = .ok (.iconst (-1), 1) := by decide +kernel
theorem dX2_marksUnder_43 : decode cX2_marksUnder 43 = .ok (.ixor, 1) := by decide +kernel
theorem dX2_marksUnder_44 : decode cX2_marksUnder 44 = .ok (.iand, 1) := by decide +kernel
theorem dX2_marksUnder_45 : decode cX2_marksUnder 45 = .ok (.goto 9, 3) := by decide +kernel
theorem dX2_marksUnder_48 : decode cX2_marksUnder 48 = .ok (.aload_n 0, 1) := by decide +kernel
theorem dX2_marksUnder_49 : decode cX2_marksUnder 49 = .ok (.getfield 15, 3) := by decide +kernel
theorem dX2_marksUnder_52 : decode cX2_marksUnder 52 = .ok (.iload_n 2, 1) := by decide +kernel
theorem dX2_marksUnder_53 : decode cX2_marksUnder 53 = .ok (.iaload, 1) := by decide +kernel
theorem dX2_marksUnder_54 : decode cX2_marksUnder 54 = .ok (.ireturn, 1) := by decide +kernel
theorem dX2_perform_0 : decode cX2_perform 0 = .ok (.iconst 0, 1) := by decide +kernel
theorem dX2_perform_1 : decode cX2_perform 1 = .ok (.istore_n 3, 1) := by decide +kernel
theorem dX2_perform_2 : decode cX2_perform 2 = .ok (.iload_n 3, 1) := by decide +kernel
theorem dX2_perform_3 : decode cX2_perform 3 = .ok (.aload_n 1, 1) := by decide +kernel
theorem dX2_perform_4 : decode cX2_perform 4 = .ok (.getfield 27, 3) := by decide +kernel
theorem dX2_perform_7 : decode cX2_perform 7 = .ok (.if_icmp .ge 56, 3) := by decide +kernel
theorem dX2_perform_10 : decode cX2_perform 10 = .ok (.aload_n 0, 1) := by decide +kernel
theorem dX2_perform_11 : decode cX2_perform 11 = .ok (.aload_n 1, 1) := by decide +kernel
theorem dX2_perform_12 : decode cX2_perform 12 = .ok (.iload_n 3, 1) := by decide +kernel
theorem dX2_perform_13 : decode cX2_perform 13 = .ok (.aload_n 2, 1) := by decide +kernel
theorem dX2_perform_14 : decode cX2_perform 14 = .ok (.getfield 86, 3) := by decide +kernel
theorem dX2_perform_17 : decode cX2_perform 17 = .ok (.aload_n 2, 1) := by decide +kernel
theorem dX2_perform_18 : decode cX2_perform 18 = .ok (.getfield 91, 3) := by decide +kernel
theorem dX2_perform_21 : decode cX2_perform 21 = .ok (.invokevirtual 94, 3) := by decide +kernel
theorem dX2_perform_24 : decode cX2_perform 24 = .ok (.ifCond .eq 33, 3) := by decide +kernel
theorem dX2_perform_27 : decode cX2_perform 27 = .ok (.aload_n 0, 1) := by decide +kernel
theorem dX2_perform_28 : decode cX2_perform 28 = .ok (.getfield 9, 3) := by decide +kernel
theorem dX2_perform_31 : decode cX2_perform 31 = .ok (.iload_n 3, 1) := by decide +kernel
theorem dX2_perform_32 : decode cX2_perform 32 = .ok (.aload_n 0, 1) := by decide +kernel
theorem dX2_perform_33 : decode cX2_perform 33 = .ok (.aload_n 2, 1) := by decide +kernel
theorem dX2_perform_34 : decode cX2_perform 34 = .ok (.iload_n 3, 1) := by decide +kernel
theorem dX2_perform_35 : decode cX2_perform 35 = .ok (.invokevirtual 98, 3) := by decide +kernel
theorem dX2_perform_38 : decode cX2_perform 38 = .ok (.iastore, 1) := by decide +kernel
theorem dX2_perform_39 : decode cX2_perform 39 = .ok (.aload_n 0, 1) := by decide +kernel
theorem dX2_perform_40 : decode cX2_perform 40 = .ok (.getfield 15, 3) := by decide +kernel
theorem dX2_perform_43 : decode cX2_perform 43 = .ok (.iload_n 3, 1) := by decide +kernel
theorem dX2_perform_44 : decode cX2_perform 44 = .ok (.aload_n 0, 1) := by decide +kernel
theorem dX2_perform_45 : decode cX2_perform 45 = .ok (.aload_n 2, 1) := by decide +kernel
theorem dX2_perform_46 : decode cX2_perform 46 = .ok (.iload_n 3, 1) := by decide +kernel
theorem dX2_perform_47 : decode cX2_perform 47 = .ok (.invokevirtual 102, 3) := by decide +kernel
theorem dX2_perform_50 : decode cX2_perform 50 = .ok (.iastore, 1) := by decide +kernel
theorem dX2_perform_51 : decode cX2_perform 51 = .ok (.aload_n 0, 1) := by decide +kernel
theorem dX2_perform_52 : decode cX2_perform 52 = .ok (.aload_n 2, 1) := by decide +kernel
theorem dX2_perform_53 : decode cX2_perform 53 = .ok (.iload_n 3, 1) := by decide +kernel
theorem dX2_perform_54 : decode cX2_perform 54 = .ok (.invokevirtual 115, 3) := by decide +kernel
theorem dX2_perform_57 : decode cX2_perform 57 = .ok (.iinc 3 1, 3) := by decide +kernel
theorem dX2_perform_60 : decode cX2_perform 60 = .ok (.goto (-58), 3) := by decide +kernel
theorem dX2_perform_63 : decode cX2_perform 63 = .ok (.return_, 1) := by decide +kernel
theorem dX2_changeStrength_0 : decode cX2_changeStrength 0 = .ok (.aload_n 1, 1) := by decide +kernel
theorem dX2_changeStrength_1 : decode cX2_changeStrength 1 = .ok (.getfield 109, 3) := by decide +kernel
theorem dX2_changeStrength_4 : decode cX2_changeStrength 4 = .ok (.iconst 3, 1) := by decide +kernel
theorem dX2_changeStrength_5 : decode cX2_changeStrength 5 = .ok (.if_icmp .ne 26, 3) := by decide +kernel
theorem dX2_changeStrength_8 : decode cX2_changeStrength 8 = .ok (.aload_n 0, 1) := by decide +kernel
theorem dX2_changeStrength_9 : decode cX2_changeStrength 9 = .ok (.getfield 18, 3) := by decide +kernel
theorem dX2_changeStrength_12 : decode cX2_changeStrength 12 = .ok (.iload_n 2, 1) := by decide +kernel
theorem dX2_changeStrength_13 : decode cX2_changeStrength 13 = .ok (.aload_n 1, 1) := by decide +kernel
theorem dX2_changeStrength_14 : decode cX2_changeStrength 14 = .ok (.getfield 112, 3) := by decide +kernel
theorem dX2_changeStrength_17 : decode cX2_changeStrength 17 = .ok (.iastore, 1) := by decide +kernel
theorem dX2_changeStrength_18 : decode cX2_changeStrength 18 = .ok (.aload_n 0, 1) := by decide +kernel
theorem dX2_changeStrength_19 : decode cX2_changeStrength 19 = .ok (.getfield 21, 3) := by decide +kernel
theorem dX2_changeStrength_22 : decode cX2_changeStrength 22 = .ok (.iload_n 2, 1) := by decide +kernel
theorem dX2_changeStrength_23 : decode cX2_changeStrength 23 = .ok (.aload_n 1, 1) := by decide +kernel
theorem dX2_changeStrength_24 : decode cX2_changeStrength 24 = .ok (.getfield 119, 3) := by decide +kernel
theorem dX2_changeStrength_27 : decode cX2_changeStrength 27 = .ok (.iastore, 1) := by decide +kernel
theorem dX2_changeStrength_28 : decode cX2_changeStrength 28 = .ok (.goto 74, 3) := by decide +kernel
theorem dX2_changeStrength_31 : decode cX2_changeStrength 31 = .ok (.aload_n 1, 1) := by decide +kernel
theorem dX2_changeStrength_32 : decode cX2_changeStrength 32 = .ok (.getfield 109, 3) := by decide +kernel
theorem dX2_changeStrength_35 : decode cX2_changeStrength 35 = .ok (.iconst 4, 1) := by decide +kernel
theorem dX2_changeStrength_36 : decode cX2_changeStrength 36 = .ok (.if_icmp .ne 32, 3) := by decide +kernel
theorem dX2_changeStrength_39 : decode cX2_changeStrength 39 = .ok (.aload_n 0, 1) := by decide +kernel
theorem dX2_changeStrength_40 : decode cX2_changeStrength 40 = .ok (.getfield 18, 3) := by decide +kernel
theorem dX2_changeStrength_43 : decode cX2_changeStrength 43 = .ok (.iload_n 2, 1) := by decide +kernel
theorem dX2_changeStrength_44 : decode cX2_changeStrength 44 = .ok (.dup2, 1) := by decide +kernel
theorem dX2_changeStrength_45 : decode cX2_changeStrength 45 = .ok (.iaload, 1) := by decide +kernel
theorem dX2_changeStrength_46 : decode cX2_changeStrength 46 = .ok (.aload_n 1, 1) := by decide +kernel
theorem dX2_changeStrength_47 : decode cX2_changeStrength 47 = .ok (.getfield 112, 3) := by decide +kernel
theorem dX2_changeStrength_50 : decode cX2_changeStrength 50 = .ok (.iadd, 1) := by decide +kernel
theorem dX2_changeStrength_51 : decode cX2_changeStrength 51 = .ok (.iastore, 1) := by decide +kernel
theorem dX2_changeStrength_52 : decode cX2_changeStrength 52 = .ok (.aload_n 0, 1) := by decide +kernel
theorem dX2_changeStrength_53 : decode cX2_changeStrength 53 = .ok (.getfield 21, 3) := by decide +kernel
theorem dX2_changeStrength_56 : decode cX2_changeStrength 56 = .ok (.iload_n 2, 1) := by decide +kernel
theorem dX2_changeStrength_57 : decode cX2_changeStrength 57 = .ok (.dup2, 1) := by decide +kernel
theorem dX2_changeStrength_58 : decode cX2_changeStrength 58 = .ok (.iaload, 1) := by decide +kernel
theorem dX2_changeStrength_59 : decode cX2_changeStrength 59 = .ok (.aload_n 1, 1) := by decide +kernel
theorem dX2_changeStrength_60 : decode cX2_changeStrength 60 = .ok (.getfield 119, 3) := by decide +kernel
theorem dX2_changeStrength_63 : decode cX2_changeStrength 63 = .ok (.iadd, 1) := by decide +kernel
theorem dX2_changeStrength_64 : decode cX2_changeStrength 64 = .ok (.iastore, 1) := by decide +kernel
theorem dX2_changeStrength_65 : decode cX2_changeStrength 65 = .ok (.goto 37, 3) := by decide +kernel
theorem dX2_changeStrength_68 : decode cX2_changeStrength 68 = .ok (.aload_n 1, 1) := by decide +kernel
theorem dX2_changeStrength_69 : decode cX2_changeStrength 69 = .ok (.getfield 109, 3) := by decide +kernel
theorem dX2_changeStrength_72 : decode cX2_changeStrength 72 = .ok (.iconst 5, 1) := by decide +kernel
theorem dX2_changeStrength_73 : decode cX2_changeStrength 73 = .ok (.if_icmp .ne 29, 3) := by decide +kernel
theorem dX2_changeStrength_76 : decode cX2_changeStrength 76 = .ok (.aload_n 0, 1) := by decide +kernel
theorem dX2_changeStrength_77 : decode cX2_changeStrength 77 = .ok (.getfield 18, 3) := by decide +kernel
theorem dX2_changeStrength_80 : decode cX2_changeStrength 80 = .ok (.iload_n 2, 1) := by decide +kernel
theorem dX2_changeStrength_81 : decode cX2_changeStrength 81 = .ok (.iaload, 1) := by decide +kernel
theorem dX2_changeStrength_82 : decode cX2_changeStrength 82 = .ok (.istore_n 3, 1) := by decide +kernel
theorem dX2_changeStrength_83 : decode cX2_changeStrength 83 = .ok (.aload_n 0, 1) := by decide +kernel
theorem dX2_changeStrength_84 : decode cX2_changeStrength 84 = .ok (.getfield 18, 3) := by decide +kernel
theorem dX2_changeStrength_87 : decode cX2_changeStrength 87 = .ok (.iload_n 2, 1) := by decide +kernel
theorem dX2_changeStrength_88 : decode cX2_changeStrength 88 = .ok (.aload_n 0, 1) := by decide +kernel
theorem dX2_changeStrength_89 : decode cX2_changeStrength 89 = .ok (.getfield 21, 3) := by decide +kernel
theorem dX2_changeStrength_92 : decode cX2_changeStrength 92 = .ok (.iload_n 2, 1) := by decide +kernel
theorem dX2_changeStrength_93 : decode cX2_changeStrength 93 = .ok (.iaload, 1) := by decide +kernel
theorem dX2_changeStrength_94 : decode cX2_changeStrength 94 = .ok (.iastore, 1) := by decide +kernel
theorem dX2_changeStrength_95 : decode cX2_changeStrength 95 = .ok (.aload_n 0, 1) := by decide +kernel
theorem dX2_changeStrength_96 : decode cX2_changeStrength 96 = .ok (.getfield 21, 3) := by decide +kernel
theorem dX2_changeStrength_99 : decode cX2_changeStrength 99 = .ok (.iload_n 2, 1) := by decide +kernel
theorem dX2_changeStrength_100 : decode cX2_changeStrength 100 = .ok (.iload_n 3, 1) := by decide +kernel
theorem dX2_changeStrength_101 : decode cX2_changeStrength 101 = .ok (.iastore, 1) := by decide +kernel
theorem dX2_changeStrength_102 : decode cX2_changeStrength 102 = .ok (.return_, 1) := by decide +kernel
theorem dX2_holds_0 : decode cX2_holds 0 = .ok (.iload_n 2, 1) := by decide +kernel
theorem dX2_holds_1 : decode cX2_holds 1 = .ok (.ifCond .lt 43, 3) := by decide +kernel
theorem dX2_holds_4 : decode cX2_holds 4 = .ok (.iload_n 2, 1) := by decide +kernel
