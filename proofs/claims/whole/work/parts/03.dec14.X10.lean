theorem dX10_init_0 : decode cX10_init 0 = .ok (.aload_n 0, 1) := by decide +kernel
theorem dX10_init_1 : decode cX10_init 1 = .ok (.invokespecial 1, 3) := by decide +kernel
theorem dX10_init_4 : decode cX10_init 4 = .ok (.aload_n 0, 1) := by decide +kernel
theorem dX10_init_5 : decode cX10_init 5 = .ok (.new 7, 3) := by decide +kernel
theorem dX10_init_8 : decode cX10_init 8 = .ok (.dup, 1) := by decide +kernel
theorem dX10_init_9 : decode cX10_init 9 = .ok (.invokespecial 9, 3) := by decide +kernel
theorem dX10_init_12 : decode cX10_init 12 = .ok (.putfield 10, 3) := by decide +kernel
theorem dX10_init_15 : decode cX10_init 15 = .ok (.aload_n 0, 1) := by decide +kernel
theorem dX10_init_16 : decode cX10_init 16 = .ok (.aload_n 0, 1) := by decide +kernel
theorem dX10_init_17 : decode cX10_init 17 = .ok (.getfield 10, 3) := by decide +kernel
theorem dX10_init_20 : decode cX10_init 20 = .ok (.getfield 16, 3) := by decide +kernel
theorem dX10_init_23 : decode cX10_init 23 = .ok (.putfield 20, 3) := by decide +kernel
theorem dX10_init_26 : decode cX10_init 26 = .ok (.aload_n 0, 1) := by decide +kernel
theorem dX10_init_27 : decode cX10_init 27 = .ok (.aload_n 0, 1) := by decide +kernel
theorem dX10_init_28 : decode cX10_init 28 = .ok (.getfield 10, 3) := by decide +kernel
theorem dX10_init_31 : decode cX10_init 31 = .ok (.getfield 23, 3) := by decide +kernel
theorem dX10_init_34 : decode cX10_init 34 = .ok (.putfield 27, 3) := by decide +kernel
theorem dX10_init_37 : decode cX10_init 37 = .ok (.aload_n 0, 1) := by decide +kernel
theorem dX10_init_38 : decode cX10_init 38 = .ok (.new 28, 3) := by decide +kernel
theorem dX10_init_41 : decode cX10_init 41 = .ok (.dup, 1) := by decide +kernel
theorem dX10_init_42 : decode cX10_init 42 = .ok (.invokespecial 30, 3) := by decide +kernel
theorem dX10_init_45 : decode cX10_init 45 = .ok (.putfield 31, 3) := by decide +kernel
theorem dX10_init_48 : decode cX10_init 48 = .ok (.aload_n 0, 1) := by decide +kernel
theorem dX10_init_49 : decode cX10_init 49 = .ok (.new 28, 3) := by decide +kernel
theorem dX10_init_52 : decode cX10_init 52 = .ok (.dup, 1) := by decide +kernel
theorem dX10_init_53 : decode cX10_init 53 = .ok (.invokespecial 30, 3) := by decide +kernel
theorem dX10_init_56 : decode cX10_init 56 = .ok (.putfield 34, 3) := by decide +kernel
theorem dX10_init_59 : decode cX10_init 59 = .ok (.aload_n 0, 1) := by decide +kernel
theorem dX10_init_60 : decode cX10_init 60 = .ok (.new 37, 3) := by decide +kernel
theorem dX10_init_63 : decode cX10_init 63 = .ok (.dup, 1) := by decide +kernel
theorem dX10_init_64 : decode cX10_init 64 = .ok (.invokespecial 39, 3) := by decide +kernel
theorem dX10_init_67 : decode cX10_init 67 = .ok (.putfield 40, 3) := by decide +kernel
theorem dX10_init_70 : decode cX10_init 70 = .ok (.aload_n 0, 1) := by decide +kernel
theorem dX10_init_71 : decode cX10_init 71 = .ok (.new 43, 3) := by decide +kernel
theorem dX10_init_74 : decode cX10_init 74 = .ok (.dup, 1) := by decide +kernel
theorem dX10_init_75 : decode cX10_init 75 = .ok (.invokespecial 45, 3) := by decide +kernel
theorem dX10_init_78 : decode cX10_init 78 = .ok (.putfield 46, 3) := by decide +kernel
theorem dX10_init_81 : decode cX10_init 81 = .ok (.aload_n 0, 1) := by decide +kernel
theorem dX10_init_82 : decode cX10_init 82 = .ok (.new 50, 3) := by decide +kernel
theorem dX10_init_85 : decode cX10_init 85 = .ok (.dup, 1) := by decide +kernel
theorem dX10_init_86 : decode cX10_init 86 = .ok (.invokespecial 52, 3) := by decide +kernel
theorem dX10_init_89 : decode cX10_init 89 = .ok (.putfield 53, 3) := by decide +kernel
theorem dX10_init_92 : decode cX10_init 92 = .ok (.aload_n 0, 1) := by decide +kernel
theorem dX10_init_93 : decode cX10_init 93 = .ok (.iconst 4, 1) := by decide +kernel
theorem dX10_init_94 : decode cX10_init 94 = .ok (.anewarray 57, 3) := by decide +kernel
theorem dX10_init_97 : decode cX10_init 97 = .ok (.putfield 59, 3) := by decide +kernel
theorem dX10_init_100 : decode cX10_init 100 = .ok (.aload_n 0, 1) := by decide +kernel
theorem dX10_init_101 : decode cX10_init 101 = .ok (.bipush 40, 2) := by decide +kernel
theorem dX10_init_103 : decode cX10_init 103 = .ok (.newarray .int, 2) := by decide +kernel
theorem dX10_init_105 : decode cX10_init 105 = .ok (.putfield 63, 3) := by decide +kernel
theorem dX10_init_108 : decode cX10_init 108 = .ok (.iconst 0, 1) := by decide +kernel
theorem dX10_init_109 : decode cX10_init 109 = .ok (.istore_n 1, 1) := by decide +kernel
theorem dX10_init_110 : decode cX10_init 110 = .ok (.iload_n 1, 1) := by decide +kernel
theorem dX10_init_111 : decode cX10_init 111 = .ok (.iconst 4, 1) := by decide +kernel
theorem dX10_init_112 : decode cX10_init 112 = .ok (.if_icmp .ge 22, 3) := by decide +kernel
theorem dX10_init_115 : decode cX10_init 115 = .ok (.aload_n 0, 1) := by decide +kernel
theorem dX10_init_116 : decode cX10_init 116 = .ok (.getfield 59, 3) := by decide +kernel
theorem dX10_init_119 : decode cX10_init 119 = .ok (.iload_n 1, 1) := by decide +kernel
theorem dX10_init_120 : decode cX10_init 120 = .ok (.new 57, 3) := by decide +kernel
theorem dX10_init_123 : decode cX10_init 123 = .ok (.dup, 1) := by decide +kernel
theorem dX10_init_124 : decode cX10_init 124 = .ok (.invokespecial 67, 3) := by decide +kernel
theorem dX10_init_127 : decode cX10_init 127 = .ok (.aastore, 1) := by decide +kernel
theorem dX10_init_128 : decode cX10_init 128 = .ok (.iinc 1 1, 3) := by decide +kernel
theorem dX10_init_131 : decode cX10_init 131 = .ok (.goto (-21), 3) := by decide +kernel
theorem dX10_init_134 : decode cX10_init 134 = .ok (.return_, 1) := by decide +kernel
theorem dX10_clear_0 : decode cX10_clear 0 = .ok (.aload_n 0, 1) := by decide +kernel
theorem dX10_clear_1 : decode cX10_clear 1 = .ok (.getfield 20, 3) := by decide +kernel
theorem dX10_clear_4 : decode cX10_clear 4 = .ok (.getfield 68, 3) := by decide +kernel
theorem dX10_clear_7 : decode cX10_clear 7 = .ok (.istore_n 1, 1) := by decide +kernel
theorem dX10_clear_8 : decode cX10_clear 8 = .ok (.aload_n 0, 1) := by decide +kernel
theorem dX10_clear_9 : decode cX10_clear 9 = .ok (.getfield 20, 3) := by decide +kernel
theorem dX10_clear_12 : decode cX10_clear 12 = .ok (.invokevirtual 72, 3) := by decide +kernel
theorem dX10_clear_15 : decode cX10_clear 15 = .ok (.aload_n 0, 1) := by decide +kernel
theorem dX10_clear_16 : decode cX10_clear 16 = .ok (.iconst 0, 1) := by decide +kernel
theorem dX10_clear_17 : decode cX10_clear 17 = .ok (.putfield 75, 3) := by decide +kernel
theorem dX10_clear_20 : decode cX10_clear 20 = .ok (.aload_n 0, 1) := by decide +kernel
theorem dX10_clear_21 : decode cX10_clear 21 = .ok (.getfield 27, 3) := by decide +kernel
theorem dX10_clear_24 : decode cX10_clear 24 = .ok (.aload_n 0, 1) := by decide +kernel
theorem dX10_clear_25 : decode cX10_clear 25 = .ok (.getfield 20, 3) := by decide +kernel
theorem dX10_clear_28 : decode cX10_clear 28 = .ok (.iconst 5, 1) := by decide +kernel
theorem dX10_clear_29 : decode cX10_clear 29 = .ok (.invokevirtual 78, 3) := by decide +kernel
theorem dX10_clear_32 : decode cX10_clear 32 = .ok (.iload_n 1, 1) := by decide +kernel
theorem dX10_clear_33 : decode cX10_clear 33 = .ok (.ireturn, 1) := by decide +kernel
theorem dX10_thing_0 : decode cX10_thing 0 = .ok (.iload_n 1, 1) := by decide +kernel
theorem dX10_thing_1 : decode cX10_thing 1 = .ok (.iconst 0, 1) := by decide +kernel
theorem dX10_thing_2 : decode cX10_thing 2 = .ok (.iconst 1, 1) := by decide +kernel
theorem dX10_thing_3 : decode cX10_thing 3 = .ok (.invokestatic 82, 3) := by decide +kernel
theorem dX10_thing_6 : decode cX10_thing 6 = .ok (.ifCond .eq 12, 3) := by decide +kernel
theorem dX10_thing_9 : decode cX10_thing 9 = .ok (.iload_n 2, 1) := by decide +kernel
theorem dX10_thing_10 : decode cX10_thing 10 = .ok (.iconst 0, 1) := by decide +kernel
theorem dX10_thing_11 : decode cX10_thing 11 = .ok (.iconst 5, 1) := by decide +kernel
theorem dX10_thing_12 : decode cX10_thing 12 = .ok (.invokestatic 82, 3) := by decide +kernel
theorem dX10_thing_15 : decode cX10_thing 15 = .ok (.ifCond .ne 6, 3) := by decide +kernel
theorem dX10_thing_18 : decode cX10_thing 18 = .ok (.bipush (-2), 2) := by decide +kernel
theorem dX10_thing_20 : decode cX10_thing 20 = .ok (.ireturn, 1) := by decide +kernel
theorem dX10_thing_21 : decode cX10_thing 21 = .ok (.iload_n 3, 1) := by decide +kernel
theorem dX10_thing_22 : decode cX10_thing 22 = .ok (.iconst 0, 1) := by decide +kernel
theorem dX10_thing_23 : decode cX10_thing 23 = .ok (.bipush 99, 2) := by decide +kernel
theorem dX10_thing_25 : decode cX10_thing 25 = .ok (.invokestatic 82, 3) := by decide +kernel
theorem dX10_thing_28 : decode cX10_thing 28 = .ok (.ifCond .eq 14, 3) := by decide +kernel
theorem dX10_thing_31 : decode cX10_thing 31 = .ok (.iload 4, 2) := by decide +kernel
theorem dX10_thing_33 : decode cX10_thing 33 = .ok (.iconst 0, 1) := by decide +kernel
theorem dX10_thing_34 : decode cX10_thing 34 = .ok (.bipush 99, 2) := by decide +kernel
theorem dX10_thing_36 : decode cX10_thing 36 = .ok (.invokestatic 82, 3) := by decide +kernel
theorem dX10_thing_39 : decode cX10_thing 39 = .ok (.ifCond .ne 6, 3) := by decide +kernel
theorem dX10_thing_42 : decode cX10_thing 42 = .ok (.bipush (-2), 2) := by decide +kernel
theorem dX10_thing_44 : decode cX10_thing 44 = .ok (.ireturn, 1) := by decide +kernel
theorem dX10_thing_45 : decode cX10_thing 45 = .ok (.aload_n 0, 1) := by decide +kernel
theorem dX10_thing_46 : decode cX10_thing 46 = .ok (.getfield 20, 3) := by decide +kernel
theorem dX10_thing_49 : decode cX10_thing 49 = .ok (.getfield 68, 3) := by decide +kernel
theorem dX10_thing_52 : decode cX10_thing 52 = .ok (.bipush 8, 2) := by decide +kernel
theorem dX10_thing_54 : decode cX10_thing 54 = .ok (.if_icmp .lt 6, 3) := by decide +kernel
theorem dX10_thing_57 : decode cX10_thing 57 = .ok (.bipush (-4), 2) := by decide +kernel
theorem dX10_thing_59 : decode cX10_thing 59 = .ok (.ireturn, 1) := by decide +kernel
theorem dX10_thing_60 : decode cX10_thing 60 = .ok (.aload_n 0, 1) := by decide +kernel
theorem dX10_thing_61 : decode cX10_thing 61 = .ok (.getfield 20, 3) := by decide +kernel
theorem dX10_thing_64 : decode cX10_thing 64 = .ok (.getfield 68, 3) := by decide +kernel
theorem dX10_thing_67 : decode cX10_thing 67 = .ok (.istore 5, 2) := by decide +kernel
theorem dX10_thing_69 : decode cX10_thing 69 = .ok (.aload_n 0, 1) := by decide +kernel
theorem dX10_thing_70 : decode cX10_thing 70 = .ok (.getfield 20, 3) := by decide +kernel
theorem dX10_thing_73 : decode cX10_thing 73 = .ok (.iload_n 1, 1) := by decide +kernel
theorem dX10_thing_74 : decode cX10_thing 74 = .ok (.iload_n 2, 1) := by decide +kernel
theorem dX10_thing_75 : decode cX10_thing 75 = .ok (.iload_n 3, 1) := by decide +kernel
theorem dX10_thing_76 : decode cX10_thing 76 = .ok (.iload 4, 2) := by decide +kernel
theorem dX10_thing_78 : decode cX10_thing 78 = .ok (.invokevirtual 86, 3) := by decide +kernel
theorem dX10_thing_81 : decode cX10_thing 81 = .ok (.aload_n 0, 1) := by decide +kernel
theorem dX10_thing_82 : decode cX10_thing 82 = .ok (.getfield 10, 3) := by decide +kernel
theorem dX10_thing_85 : decode cX10_thing 85 = .ok (.iconst 0, 1) := by decide +kernel
theorem dX10_thing_86 : decode cX10_thing 86 = .ok (.invokevirtual 90, 3) := by decide +kernel
theorem dX10_thing_89 : decode cX10_thing 89 = .ok (.iload 5, 2) := by decide +kernel
theorem dX10_thing_91 : decode cX10_thing 91 = .ok (.ireturn, 1) := by decide +kernel
theorem dX10_of_0 : decode cX10_of 0 = .ok (.aload_n 0, 1) := by decide +kernel
theorem dX10_of_1 : decode cX10_of 1 = .ok (.getfield 20, 3) := by decide +kernel
theorem dX10_of_4 : decode cX10_of 4 = .ok (.iload_n 1, 1) := by decide +kernel
theorem dX10_of_5 : decode cX10_of 5 = .ok (.invokevirtual 94, 3) := by decide +kernel
theorem dX10_of_8 : decode cX10_of 8 = .ok (.ifCond .ne 6, 3) := by decide +kernel
theorem dX10_of_11 : decode cX10_of 11 = .ok (.bipush (-2), 2) := by decide +kernel
theorem dX10_of_13 : decode cX10_of 13 = .ok (.ireturn, 1) := by decide +kernel
theorem dX10_of_14 : decode cX10_of 14 = .ok (.aload_n 0, 1) := by decide +kernel
theorem dX10_of_15 : decode cX10_of 15 = .ok (.getfield 20, 3) := by decide +kernel
theorem dX10_of_18 : decode cX10_of 18 = .ok (.getfield 98, 3) := by decide +kernel
theorem dX10_of_21 : decode cX10_of 21 = .ok (.iload_n 1, 1) := by decide +kernel
theorem dX10_of_22 : decode cX10_of 22 = .ok (.aaload, 1) := by decide +kernel
theorem dX10_of_23 : decode cX10_of 23 = .ok (.astore_n 3, 1) := by decide +kernel
theorem dX10_of_24 : decode cX10_of 24 = .ok (.iload_n 2, 1) := by decide +kernel
theorem dX10_of_25 : decode cX10_of 25 = .ok (.tableswitch 77 0 5 #[39, 44, 49, 54, 59, 64], 39) := by decide +kernel
theorem dX10_of_64 : decode cX10_of 64 = .ok (.aload_n 3, 1) := by decide +kernel
theorem dX10_of_65 : decode cX10_of 65 = .ok (.getfield 102, 3) := by decide +kernel
theorem dX10_of_68 : decode cX10_of 68 = .ok (.ireturn, 1) := by decide +kernel
theorem dX10_of_69 : decode cX10_of 69 = .ok (.aload_n 3, 1) := by decide +kernel
theorem dX10_of_70 : decode cX10_of 70 = .ok (.getfield 107, 3) := by decide +kernel
theorem dX10_of_73 : decode cX10_of 73 = .ok (.ireturn, 1) := by decide +kernel
theorem dX10_of_74 : decode cX10_of 74 = .ok (.aload_n 3, 1) := by decide +kernel
theorem dX10_of_75 : decode cX10_of 75 = .ok (.getfield 110, 3) := by decide +kernel
theorem dX10_of_78 : decode cX10_of 78 = .ok (.ireturn, 1) := by decide +kernel
theorem dX10_of_79 : decode cX10_of 79 = .ok (.aload_n 3, 1) := by decide +kernel
theorem dX10_of_80 : decode cX10_of 80 = .ok (.getfield 113, 3) := by decide +kernel
theorem dX10_of_83 : decode cX10_of 83 = .ok (.ireturn, 1) := by decide +kernel
theorem dX10_of_84 : decode cX10_of 84 = .ok (.aload_n 3, 1) := by decide +kernel
theorem dX10_of_85 : decode cX10_of 85 = .ok (.getfield 116, 3) := by decide +kernel
theorem dX10_of_88 : decode cX10_of 88 = .ok (.ireturn, 1) := by decide +kernel
theorem dX10_of_89 : decode cX10_of 89 = .ok (.aload_n 3, 1) := by decide +kernel
theorem dX10_of_90 : decode cX10_of 90 = .ok (.getfield 119, 3) := by decide +kernel
theorem dX10_of_93 : decode cX10_of 93 = .ok (.ifCond .eq 7, 3) := by decide +kernel
theorem dX10_of_96 : decode cX10_of 96 = .ok (.iconst 1, 1) := by decide +kernel
theorem dX10_of_97 : decode cX10_of 97 = .ok (.goto 4, 3) := by decide +kernel
theorem dX10_of_100 : decode cX10_of 100 = .ok (.iconst 0, 1) := by decide +kernel
theorem dX10_of_101 : decode cX10_of 101 = .ok (.ireturn, 1) := by decide +kernel
theorem dX10_of_102 : decode cX10_of 102 = .ok (.bipush (-2), 2) := by decide +kernel
theorem dX10_of_104 : decode cX10_of 104 = .ok (.ireturn, 1) := by decide +kernel
theorem dX10_now_0 : decode cX10_now 0 = .ok (.aload_n 0, 1) := by decide +kernel
theorem dX10_now_1 : decode cX10_now 1 = .ok (.getfield 20, 3) := by decide +kernel
theorem dX10_now_4 : decode cX10_now 4 = .ok (.iload_n 1, 1) := by decide +kernel
theorem dX10_now_5 : decode cX10_now 5 = .ok (.invokevirtual 94, 3) := by decide +kernel
theorem dX10_now_8 : decode cX10_now 8 = .ok (.ifCond .ne 6, 3) := by decide +kernel
theorem dX10_now_11 : decode cX10_now 11 = .ok (.bipush (-2), 2) := by decide +kernel
theorem dX10_now_13 : decode cX10_now 13 = .ok (.ireturn, 1) := by decide +kernel
theorem dX10_now_14 : decode cX10_now 14 = .ok (.aload_n 0, 1) := by decide +kernel
theorem dX10_now_15 : decode cX10_now 15 = .ok (.getfield 20, 3) := by decide +kernel
theorem dX10_now_18 : decode cX10_now 18 = .ok (.getfield 98, 3) := by decide +kernel
theorem dX10_now_21 : decode cX10_now 21 = .ok (.iload_n 1, 1) := by decide +kernel
theorem dX10_now_22 : decode cX10_now 22 = .ok (.aaload, 1) := by decide +kernel
theorem dX10_now_23 : decode cX10_now 23 = .ok (.astore_n 3, 1) := by decide +kernel
theorem dX10_now_24 : decode cX10_now 24 = .ok (.iload_n 2, 1) := by decide +kernel
theorem dX10_now_25 : decode cX10_now 25 = .ok (.tableswitch 116 0 3 #[31, 55, 79, 92], 31) := by decide +kernel
theorem dX10_now_56 : decode cX10_now 56 = .ok (.aload_n 3, 1) := by decide +kernel
theorem dX10_now_57 : decode cX10_now 57 = .ok (.getfield 119, 3) := by decide +kernel
theorem dX10_now_60 : decode cX10_now 60 = .ok (.ifCond .eq 15, 3) := by decide +kernel
theorem dX10_now_63 : decode cX10_now 63 = .ok (.aload_n 0, 1) := by decide +kernel
theorem dX10_now_64 : decode cX10_now 64 = .ok (.getfield 27, 3) := by decide +kernel
theorem dX10_now_67 : decode cX10_now 67 = .ok (.getfield 123, 3) := by decide +kernel
theorem dX10_now_70 : decode cX10_now 70 = .ok (.iload_n 1, 1) := by decide +kernel
theorem dX10_now_71 : decode cX10_now 71 = .ok (.iaload, 1) := by decide +kernel
theorem dX10_now_72 : decode cX10_now 72 = .ok (.goto 7, 3) := by decide +kernel
theorem dX10_now_75 : decode cX10_now 75 = .ok (.aload_n 3, 1) := by decide +kernel
theorem dX10_now_76 : decode cX10_now 76 = .ok (.getfield 125, 3) := by decide +kernel
theorem dX10_now_79 : decode cX10_now 79 = .ok (.ireturn, 1) := by decide +kernel
theorem dX10_now_80 : decode cX10_now 80 = .ok (.aload_n 3, 1) := by decide +kernel
theorem dX10_now_81 : decode cX10_now 81 = .ok (.getfield 119, 3) := by decide +kernel
theorem dX10_now_84 : decode cX10_now 84 = .ok (.ifCond .eq 15, 3) := by decide +kernel
theorem dX10_now_87 : decode cX10_now 87 = .ok (.aload_n 0, 1) := by decide +kernel
theorem dX10_now_88 : decode cX10_now 88 = .ok (.getfield 27, 3) := by decide +kernel
theorem dX10_now_91 : decode cX10_now 91 = .ok (.getfield 128, 3) := by decide +kernel
theorem dX10_now_94 : decode cX10_now 94 = .ok (.iload_n 1, 1) := by decide +kernel
theorem dX10_now_95 : decode cX10_now 95 = .ok (.iaload, 1) := by decide +kernel
theorem dX10_now_96 : decode cX10_now 96 = .ok (.goto 7, 3) := by decide +kernel
theorem dX10_now_99 : decode cX10_now 99 = .ok (.aload_n 3, 1) := by decide +kernel
theorem dX10_now_100 : decode cX10_now 100 = .ok (.getfield 131, 3) := by decide +kernel
theorem dX10_now_103 : decode cX10_now 103 = .ok (.ireturn, 1) := by decide +kernel
theorem dX10_now_104 : decode cX10_now 104 = .ok (.aload_n 0, 1) := by decide +kernel
theorem dX10_now_105 : decode cX10_now 105 = .ok (.getfield 27, 3) := by decide +kernel
theorem dX10_now_108 : decode cX10_now 108 = .ok (.aload_n 0, 1) := by decide +kernel
theorem dX10_now_109 : decode cX10_now 109 = .ok (.getfield 20, 3) := by decide +kernel
theorem dX10_now_112 : decode cX10_now 112 = .ok (.iload_n 1, 1) := by decide +kernel
theorem dX10_now_113 : decode cX10_now 113 = .ok (.invokevirtual 134, 3) := by decide +kernel
theorem dX10_now_116 : decode cX10_now 116 = .ok (.ireturn, 1) := by decide +kernel
theorem dX10_now_117 : decode cX10_now 117 = .ok (.aload_n 3, 1) := by decide +kernel
theorem dX10_now_118 : decode cX10_now 118 = .ok (.getfield 119, 3) := by decide +kernel
theorem dX10_now_121 : decode cX10_now 121 = .ok (.ifCond .eq 15, 3) := by decide +kernel
theorem dX10_now_124 : decode cX10_now 124 = .ok (.aload_n 0, 1) := by decide +kernel
theorem dX10_now_125 : decode cX10_now 125 = .ok (.getfield 27, 3) := by decide +kernel
theorem dX10_now_128 : decode cX10_now 128 = .ok (.getfield 138, 3) := by decide +kernel
theorem dX10_now_131 : decode cX10_now 131 = .ok (.iload_n 1, 1) := by decide +kernel
theorem dX10_now_132 : decode cX10_now 132 = .ok (.iaload, 1) := by decide +kernel
theorem dX10_now_133 : decode cX10_now 133 = .ok (.goto 7, 3) := by decide +kernel
theorem dX10_now_136 : decode cX10_now 136 = .ok (.aload_n 3, 1) := by decide +kernel
theorem dX10_now_137 : decode cX10_now 137 = .ok (.getfield 140, 3) := by decide +kernel
theorem dX10_now_140 : decode cX10_now 140 = .ok (.ireturn, 1) := by decide +kernel
theorem dX10_now_141 : decode cX10_now 141 = .ok (.bipush (-2), 2) := by decide +kernel
theorem dX10_now_143 : decode cX10_now 143 = .ok (.ireturn, 1) := by decide +kernel
theorem dX10_set_0 : decode cX10_set 0 = .ok (.aload_n 0, 1) := by decide +kernel
theorem dX10_set_1 : decode cX10_set 1 = .ok (.getfield 20, 3) := by decide +kernel
theorem dX10_set_4 : decode cX10_set 4 = .ok (.iload_n 1, 1) := by decide +kernel
theorem dX10_set_5 : decode cX10_set 5 = .ok (.invokevirtual 94, 3) := by decide +kernel
theorem dX10_set_8 : decode cX10_set 8 = .ok (.ifCond .eq 11, 3) := by decide +kernel
theorem dX10_set_11 : decode cX10_set 11 = .ok (.iload_n 2, 1) := by decide +kernel
theorem dX10_set_12 : decode cX10_set 12 = .ok (.iload_n 3, 1) := by decide +kernel
theorem dX10_set_13 : decode cX10_set 13 = .ok (.invokestatic 143, 3) := by decide +kernel
theorem dX10_set_16 : decode cX10_set 16 = .ok (.ifCond .ne 6, 3) := by decide +kernel
theorem dX10_set_19 : decode cX10_set 19 = .ok (.bipush (-2), 2) := by decide +kernel
theorem dX10_set_21 : decode cX10_set 21 = .ok (.ireturn, 1) := by decide +kernel
theorem dX10_set_22 : decode cX10_set 22 = .ok (.aload_n 0, 1) := by decide +kernel
theorem dX10_set_23 : decode cX10_set 23 = .ok (.getfield 20, 3) := by decide +kernel
theorem dX10_set_26 : decode cX10_set 26 = .ok (.getfield 98, 3) := by decide +kernel
theorem dX10_set_29 : decode cX10_set 29 = .ok (.iload_n 1, 1) := by decide +kernel
theorem dX10_set_30 : decode cX10_set 30 = .ok (.aaload, 1) := by decide +kernel
theorem dX10_set_31 : decode cX10_set 31 = .ok (.astore 4, 2) := by decide +kernel
theorem dX10_set_33 : decode cX10_set 33 = .ok (.aload 4, 2) := by decide +kernel
theorem dX10_set_35 : decode cX10_set 35 = .ok (.getfield 119, 3) := by decide +kernel
theorem dX10_set_38 : decode cX10_set 38 = .ok (.ifCond .ne 6, 3) := by decide +kernel
theorem dX10_set_41 : decode cX10_set 41 = .ok (.bipush (-3), 2) := by decide +kernel
theorem dX10_set_43 : decode cX10_set 43 = .ok (.ireturn, 1) := by decide +kernel
theorem dX10_set_44 : decode cX10_set 44 = .ok (.aload 4, 2) := by decide +kernel
theorem dX10_set_46 : decode cX10_set 46 = .ok (.iload_n 2, 1) := by decide +kernel
theorem dX10_set_47 : decode cX10_set 47 = .ok (.iload_n 3, 1) := by decide +kernel
theorem dX10_set_48 : decode cX10_set 48 = .ok (.invokevirtual 147, 3) := by decide +kernel
theorem dX10_set_51 : decode cX10_set 51 = .ok (.istore 5, 2) := by decide +kernel
theorem dX10_set_53 : decode cX10_set 53 = .ok (.aload_n 0, 1) := by decide +kernel
theorem dX10_set_54 : decode cX10_set 54 = .ok (.getfield 10, 3) := by decide +kernel
theorem dX10_set_57 : decode cX10_set 57 = .ok (.iconst 0, 1) := by decide +kernel
theorem dX10_set_58 : decode cX10_set 58 = .ok (.invokevirtual 90, 3) := by decide +kernel
theorem dX10_set_61 : decode cX10_set 61 = .ok (.iload 5, 2) := by decide +kernel
theorem dX10_set_63 : decode cX10_set 63 = .ok (.ireturn, 1) := by decide +kernel
theorem dX10_scope_0 : decode cX10_scope 0 = .ok (.iload_n 1, 1) := by decide +kernel
theorem dX10_scope_1 : decode cX10_scope 1 = .ok (.iload_n 2, 1) := by decide +kernel
theorem dX10_scope_2 : decode cX10_scope 2 = .ok (.invokestatic 151, 3) := by decide +kernel
theorem dX10_scope_5 : decode cX10_scope 5 = .ok (.ifCond .ne 6, 3) := by decide +kernel
theorem dX10_scope_8 : decode cX10_scope 8 = .ok (.bipush (-2), 2) := by decide +kernel
theorem dX10_scope_10 : decode cX10_scope 10 = .ok (.ireturn, 1) := by decide +kernel
theorem dX10_scope_11 : decode cX10_scope 11 = .ok (.iconst 0, 1) := by decide +kernel
theorem dX10_scope_12 : decode cX10_scope 12 = .ok (.istore_n 3, 1) := by decide +kernel
theorem dX10_scope_13 : decode cX10_scope 13 = .ok (.iconst 0, 1) := by decide +kernel
theorem dX10_scope_14 : decode cX10_scope 14 = .ok (.istore 4, 2) := by decide +kernel
theorem dX10_scope_16 : decode cX10_scope 16 = .ok (.iload 4, 2) := by decide +kernel
theorem dX10_scope_18 : decode cX10_scope 18 = .ok (.aload_n 0, 1) := by decide +kernel
theorem dX10_scope_19 : decode cX10_scope 19 = .ok (.getfield 20, 3) := by decide +kernel
theorem dX10_scope_22 : decode cX10_scope 22 = .ok (.getfield 68, 3) := by decide +kernel
theorem dX10_scope_25 : decode cX10_scope 25 = .ok (.if_icmp .ge 34, 3) := by decide +kernel
theorem dX10_scope_28 : decode cX10_scope 28 = .ok (.aload_n 0, 1) := by decide +kernel
theorem dX10_scope_29 : decode cX10_scope 29 = .ok (.getfield 27, 3) := by decide +kernel
theorem dX10_scope_32 : decode cX10_scope 32 = .ok (.aload_n 0, 1) := by decide +kernel
theorem dX10_scope_33 : decode cX10_scope 33 = .ok (.getfield 20, 3) := by decide +kernel
theorem dX10_scope_36 : decode cX10_scope 36 = .ok (.iload 4, 2) := by decide +kernel
theorem dX10_scope_38 : decode cX10_scope 38 = .ok (.iload_n 1, 1) := by decide +kernel
theorem dX10_scope_39 : decode cX10_scope 39 = .ok (.iload_n 2, 1) := by decide +kernel
theorem dX10_scope_40 : decode cX10_scope 40 = .ok (.invokevirtual 154, 3) := by decide +kernel
theorem dX10_scope_43 : decode cX10_scope 43 = .ok (.ifCond .eq 10, 3) := by decide +kernel
theorem dX10_scope_46 : decode cX10_scope 46 = .ok (.iload_n 3, 1) := by decide +kernel
theorem dX10_scope_47 : decode cX10_scope 47 = .ok (.iconst 1, 1) := by decide +kernel
theorem dX10_scope_48 : decode cX10_scope 48 = .ok (.iload 4, 2) := by decide +kernel
theorem dX10_scope_50 : decode cX10_scope 50 = .ok (.ishl, 1) := by decide +kernel
theorem dX10_scope_51 : decode cX10_scope 51 = .ok (.ior, 1) := by decide +kernel
theorem dX10_scope_52 : decode cX10_scope 52 = .ok (.istore_n 3, 1) := by decide +kernel
theorem dX10_scope_53 : decode cX10_scope 53 = .ok (.iinc 4 1, 3) := by decide +kernel
theorem dX10_scope_56 : decode cX10_scope 56 = .ok (.goto (-40), 3) := by decide +kernel
theorem dX10_scope_59 : decode cX10_scope 59 = .ok (.iload_n 3, 1) := by decide +kernel
theorem dX10_scope_60 : decode cX10_scope 60 = .ok (.ireturn, 1) := by decide +kernel
theorem dX10_effect_0 : decode cX10_effect 0 = .ok (.iload_n 1, 1) := by decide +kernel
theorem dX10_effect_1 : decode cX10_effect 1 = .ok (.iconst 0, 1) := by decide +kernel
theorem dX10_effect_2 : decode cX10_effect 2 = .ok (.iconst 5, 1) := by decide +kernel
theorem dX10_effect_3 : decode cX10_effect 3 = .ok (.invokestatic 82, 3) := by decide +kernel
theorem dX10_effect_6 : decode cX10_effect 6 = .ok (.ifCond .eq 11, 3) := by decide +kernel
theorem dX10_effect_9 : decode cX10_effect 9 = .ok (.iload_n 2, 1) := by decide +kernel
theorem dX10_effect_10 : decode cX10_effect 10 = .ok (.iload_n 3, 1) := by decide +kernel
theorem dX10_effect_11 : decode cX10_effect 11 = .ok (.invokestatic 151, 3) := by decide +kernel
theorem dX10_effect_14 : decode cX10_effect 14 = .ok (.ifCond .ne 6, 3) := by decide +kernel
theorem dX10_effect_17 : decode cX10_effect 17 = .ok (.bipush (-2), 2) := by decide +kernel
theorem dX10_effect_19 : decode cX10_effect 19 = .ok (.ireturn, 1) := by decide +kernel
theorem dX10_effect_20 : decode cX10_effect 20 = .ok (.iload_n 1, 1) := by decide +kernel
theorem dX10_effect_21 : decode cX10_effect 21 = .ok (.iload 4, 2) := by decide +kernel
theorem dX10_effect_23 : decode cX10_effect 23 = .ok (.invokestatic 158, 3) := by decide +kernel
theorem dX10_effect_26 : decode cX10_effect 26 = .ok (.ifCond .eq 15, 3) := by decide +kernel
theorem dX10_effect_29 : decode cX10_effect 29 = .ok (.iload 5, 2) := by decide +kernel
theorem dX10_effect_31 : decode cX10_effect 31 = .ok (.bipush (-9), 2) := by decide +kernel
theorem dX10_effect_33 : decode cX10_effect 33 = .ok (.bipush 9, 2) := by decide +kernel
theorem dX10_effect_35 : decode cX10_effect 35 = .ok (.invokestatic 82, 3) := by decide +kernel
theorem dX10_effect_38 : decode cX10_effect 38 = .ok (.ifCond .ne 6, 3) := by decide +kernel
theorem dX10_effect_41 : decode cX10_effect 41 = .ok (.bipush (-2), 2) := by decide +kernel
theorem dX10_effect_43 : decode cX10_effect 43 = .ok (.ireturn, 1) := by decide +kernel
theorem dX10_effect_44 : decode cX10_effect 44 = .ok (.aload_n 0, 1) := by decide +kernel
theorem dX10_effect_45 : decode cX10_effect 45 = .ok (.getfield 20, 3) := by decide +kernel
theorem dX10_effect_48 : decode cX10_effect 48 = .ok (.getfield 161, 3) := by decide +kernel
theorem dX10_effect_51 : decode cX10_effect 51 = .ok (.bipush 10, 2) := by decide +kernel
theorem dX10_effect_53 : decode cX10_effect 53 = .ok (.if_icmp .lt 6, 3) := by decide +kernel
theorem dX10_effect_56 : decode cX10_effect 56 = .ok (.bipush (-4), 2) := by decide +kernel
theorem dX10_effect_58 : decode cX10_effect 58 = .ok (.ireturn, 1) := by decide +kernel
theorem dX10_effect_59 : decode cX10_effect 59 = .ok (.aload_n 0, 1) := by decide +kernel
theorem dX10_effect_60 : decode cX10_effect 60 = .ok (.getfield 20, 3) := by decide +kernel
theorem dX10_effect_63 : decode cX10_effect 63 = .ok (.getfield 161, 3) := by decide +kernel
theorem dX10_effect_66 : decode cX10_effect 66 = .ok (.istore 6, 2) := by decide +kernel
theorem dX10_effect_68 : decode cX10_effect 68 = .ok (.aload_n 0, 1) := by decide +kernel
theorem dX10_effect_69 : decode cX10_effect 69 = .ok (.getfield 20, 3) := by decide +kernel
theorem dX10_effect_72 : decode cX10_effect 72 = .ok (.getfield 164, 3) := by decide +kernel
theorem dX10_effect_75 : decode cX10_effect 75 = .ok (.iload 6, 2) := by decide +kernel
theorem dX10_effect_77 : decode cX10_effect 77 = .ok (.aaload, 1) := by decide +kernel
theorem dX10_effect_78 : decode cX10_effect 78 = .ok (.iload_n 1, 1) := by decide +kernel
theorem dX10_effect_79 : decode cX10_effect 79 = .ok (.iload_n 2, 1) := by decide +kernel
theorem dX10_effect_80 : decode cX10_effect 80 = .ok (.iload_n 3, 1) := by decide +kernel
theorem dX10_effect_81 : decode cX10_effect 81 = .ok (.iload 4, 2) := by decide +kernel
theorem dX10_effect_83 : decode cX10_effect 83 = .ok (.iload 5, 2) := by decide +kernel
theorem dX10_effect_85 : decode cX10_effect 85 = .ok (.invokevirtual 168, 3) := by decide +kernel
theorem dX10_effect_88 : decode cX10_effect 88 = .ok (.aload_n 0, 1) := by decide +kernel
theorem dX10_effect_89 : decode cX10_effect 89 = .ok (.getfield 20, 3) := by decide +kernel
theorem dX10_effect_92 : decode cX10_effect 92 = .ok (.dup, 1) := by decide +kernel
theorem dX10_effect_93 : decode cX10_effect 93 = .ok (.getfield 161, 3) := by decide +kernel
theorem dX10_effect_96 : decode cX10_effect 96 = .ok (.iconst 1, 1) := by decide +kernel
theorem dX10_effect_97 : decode cX10_effect 97 = .ok (.iadd, 1) := by decide +kernel
theorem dX10_effect_98 : decode cX10_effect 98 = .ok (.putfield 161, 3) := by decide +kernel
theorem dX10_effect_101 : decode cX10_effect 101 = .ok (.aload_n 0, 1) := by decide +kernel
theorem dX10_effect_102 : decode cX10_effect 102 = .ok (.getfield 10, 3) := by decide +kernel
theorem dX10_effect_105 : decode cX10_effect 105 = .ok (.iconst 0, 1) := by decide +kernel
theorem dX10_effect_106 : decode cX10_effect 106 = .ok (.invokevirtual 90, 3) := by decide +kernel
theorem dX10_effect_109 : decode cX10_effect 109 = .ok (.iload 6, 2) := by decide +kernel
theorem dX10_effect_111 : decode cX10_effect 111 = .ok (.ireturn, 1) := by decide +kernel
theorem dX10_source_0 : decode cX10_source 0 = .ok (.aload_n 0, 1) := by decide +kernel
theorem dX10_source_1 : decode cX10_source 1 = .ok (.getfield 20, 3) := by decide +kernel
theorem dX10_source_4 : decode cX10_source 4 = .ok (.iload_n 1, 1) := by decide +kernel
theorem dX10_source_5 : decode cX10_source 5 = .ok (.invokevirtual 174, 3) := by decide +kernel
theorem dX10_source_8 : decode cX10_source 8 = .ok (.ifCond .eq 19, 3) := by decide +kernel
theorem dX10_source_11 : decode cX10_source 11 = .ok (.iload_n 2, 1) := by decide +kernel
theorem dX10_source_12 : decode cX10_source 12 = .ok (.iconst (-1), 1) := by decide +kernel
theorem dX10_source_13 : decode cX10_source 13 = .ok (.if_icmp .eq 17, 3) := by decide +kernel
theorem dX10_source_16 : decode cX10_source 16 = .ok (.aload_n 0, 1) := by decide +kernel
theorem dX10_source_17 : decode cX10_source 17 = .ok (.getfield 20, 3) := by decide +kernel
theorem dX10_source_20 : decode cX10_source 20 = .ok (.iload_n 2, 1) := by decide +kernel
theorem dX10_source_21 : decode cX10_source 21 = .ok (.invokevirtual 94, 3) := by decide +kernel
theorem dX10_source_24 : decode cX10_source 24 = .ok (.ifCond .ne 6, 3) := by decide +kernel
theorem dX10_source_27 : decode cX10_source 27 = .ok (.bipush (-2), 2) := by decide +kernel
theorem dX10_source_29 : decode cX10_source 29 = .ok (.ireturn, 1) := by decide +kernel
theorem dX10_source_30 : decode cX10_source 30 = .ok (.aload_n 0, 1) := by decide +kernel
theorem dX10_source_31 : decode cX10_source 31 = .ok (.getfield 20, 3) := by decide +kernel
theorem dX10_source_34 : decode cX10_source 34 = .ok (.getfield 164, 3) := by decide +kernel
theorem dX10_source_37 : decode cX10_source 37 = .ok (.iload_n 1, 1) := by decide +kernel
theorem dX10_source_38 : decode cX10_source 38 = .ok (.aaload, 1) := by decide +kernel
theorem dX10_source_39 : decode cX10_source 39 = .ok (.getfield 177, 3) := by decide +kernel
theorem dX10_source_42 : decode cX10_source 42 = .ok (.istore_n 3, 1) := by decide +kernel
theorem dX10_source_43 : decode cX10_source 43 = .ok (.aload_n 0, 1) := by decide +kernel
theorem dX10_source_44 : decode cX10_source 44 = .ok (.getfield 20, 3) := by decide +kernel
theorem dX10_source_47 : decode cX10_source 47 = .ok (.getfield 164, 3) := by decide +kernel
theorem dX10_source_50 : decode cX10_source 50 = .ok (.iload_n 1, 1) := by decide +kernel
theorem dX10_source_51 : decode cX10_source 51 = .ok (.aaload, 1) := by decide +kernel
theorem dX10_source_52 : decode cX10_source 52 = .ok (.iload_n 2, 1) := by decide +kernel
theorem dX10_source_53 : decode cX10_source 53 = .ok (.putfield 177, 3) := by decide +kernel
theorem dX10_source_56 : decode cX10_source 56 = .ok (.aload_n 0, 1) := by decide +kernel
theorem dX10_source_57 : decode cX10_source 57 = .ok (.getfield 10, 3) := by decide +kernel
theorem dX10_source_60 : decode cX10_source 60 = .ok (.iconst 0, 1) := by decide +kernel
theorem dX10_source_61 : decode cX10_source 61 = .ok (.invokevirtual 90, 3) := by decide +kernel
theorem dX10_source_64 : decode cX10_source 64 = .ok (.iload_n 3, 1) := by decide +kernel
theorem dX10_source_65 : decode cX10_source 65 = .ok (.ireturn, 1) := by decide +kernel
theorem dX10_lasts_0 : decode cX10_lasts 0 = .ok (.aload_n 0, 1) := by decide +kernel
theorem dX10_lasts_1 : decode cX10_lasts 1 = .ok (.getfield 20, 3) := by decide +kernel
theorem dX10_lasts_4 : decode cX10_lasts 4 = .ok (.iload_n 1, 1) := by decide +kernel
theorem dX10_lasts_5 : decode cX10_lasts 5 = .ok (.invokevirtual 174, 3) := by decide +kernel
theorem dX10_lasts_8 : decode cX10_lasts 8 = .ok (.ifCond .eq 13, 3) := by decide +kernel
theorem dX10_lasts_11 : decode cX10_lasts 11 = .ok (.iload_n 2, 1) := by decide +kernel
theorem dX10_lasts_12 : decode cX10_lasts 12 = .ok (.iconst 0, 1) := by decide +kernel
theorem dX10_lasts_13 : decode cX10_lasts 13 = .ok (.bipush 9, 2) := by decide +kernel
theorem dX10_lasts_15 : decode cX10_lasts 15 = .ok (.invokestatic 82, 3) := by decide +kernel
theorem dX10_lasts_18 : decode cX10_lasts 18 = .ok (.ifCond .ne 6, 3) := by decide +kernel
theorem dX10_lasts_21 : decode cX10_lasts 21 = .ok (.bipush (-2), 2) := by decide +kernel
