theorem dX0_finish_56 : decode cX0_finish 56 = .ok (.getfield 32, 3) := by decide +kernel
theorem dX0_finish_59 : decode cX0_finish 59 = .ok (.aload_n 0, 1) := by decide +kernel
theorem dX0_finish_60 : decode cX0_finish 60 = .ok (.getfield 42, 3) := by decide +kernel
theorem dX0_finish_63 : decode cX0_finish 63 = .ok (.iaload, 1) := by decide +kernel
theorem dX0_finish_64 : decode cX0_finish 64 = .ok (.aload_n 0, 1) := by decide +kernel
theorem dX0_finish_65 : decode cX0_finish 65 = .ok (.getfield 36, 3) := by decide +kernel
theorem dX0_finish_68 : decode cX0_finish 68 = .ok (.aload_n 0, 1) := by decide +kernel
theorem dX0_finish_69 : decode cX0_finish 69 = .ok (.getfield 42, 3) := by decide +kernel
theorem dX0_finish_72 : decode cX0_finish 72 = .ok (.iaload, 1) := by decide +kernel
theorem dX0_finish_73 : decode cX0_finish 73 = .ok (.invokevirtual 181, 3) := by decide +kernel
theorem dX0_finish_76 : decode cX0_finish 76 = .ok (.aload_n 0, 1) := by decide +kernel
theorem dX0_finish_77 : decode cX0_finish 77 = .ok (.iconst 1, 1) := by decide +kernel
theorem dX0_finish_78 : decode cX0_finish 78 = .ok (.invokevirtual 173, 3) := by decide +kernel
theorem dX0_finish_81 : decode cX0_finish 81 = .ok (.iinc 1 1, 3) := by decide +kernel
theorem dX0_finish_84 : decode cX0_finish 84 = .ok (.iinc 2 1, 3) := by decide +kernel
theorem dX0_finish_87 : decode cX0_finish 87 = .ok (.goto (-78), 3) := by decide +kernel
theorem dX0_finish_90 : decode cX0_finish 90 = .ok (.aload_n 0, 1) := by decide +kernel
theorem dX0_finish_91 : decode cX0_finish 91 = .ok (.getfield 42, 3) := by decide +kernel
theorem dX0_finish_94 : decode cX0_finish 94 = .ok (.ifCond .le 8, 3) := by decide +kernel
theorem dX0_finish_97 : decode cX0_finish 97 = .ok (.bipush (-5), 2) := by decide +kernel
theorem dX0_finish_99 : decode cX0_finish 99 = .ok (.goto 4, 3) := by decide +kernel
theorem dX0_finish_102 : decode cX0_finish 102 = .ok (.iload_n 1, 1) := by decide +kernel
theorem dX0_finish_103 : decode cX0_finish 103 = .ok (.ireturn, 1) := by decide +kernel
theorem dX0_act_0 : decode cX0_act 0 = .ok (.aload_n 0, 1) := by decide +kernel
theorem dX0_act_1 : decode cX0_act 1 = .ok (.getfield 12, 3) := by decide +kernel
theorem dX0_act_4 : decode cX0_act 4 = .ok (.iload_n 1, 1) := by decide +kernel
theorem dX0_act_5 : decode cX0_act 5 = .ok (.invokevirtual 184, 3) := by decide +kernel
theorem dX0_act_8 : decode cX0_act 8 = .ok (.ifCond .ne 4, 3) := by decide +kernel
theorem dX0_act_11 : decode cX0_act 11 = .ok (.return_, 1) := by decide +kernel
theorem dX0_act_12 : decode cX0_act 12 = .ok (.aload_n 0, 1) := by decide +kernel
theorem dX0_act_13 : decode cX0_act 13 = .ok (.getfield 12, 3) := by decide +kernel
theorem dX0_act_16 : decode cX0_act 16 = .ok (.getfield 88, 3) := by decide +kernel
theorem dX0_act_19 : decode cX0_act 19 = .ok (.iload_n 1, 1) := by decide +kernel
theorem dX0_act_20 : decode cX0_act 20 = .ok (.aaload, 1) := by decide +kernel
theorem dX0_act_21 : decode cX0_act 21 = .ok (.astore_n 3, 1) := by decide +kernel
theorem dX0_act_22 : decode cX0_act 22 = .ok (.aload_n 3, 1) := by decide +kernel
theorem dX0_act_23 : decode cX0_act 23 = .ok (.getfield 187, 3) := by decide +kernel
theorem dX0_act_26 : decode cX0_act 26 = .ok (.iconst (-1), 1) := by decide +kernel
theorem dX0_act_27 : decode cX0_act 27 = .ok (.if_icmp .ne 7, 3) := by decide +kernel
theorem dX0_act_30 : decode cX0_act 30 = .ok (.iload_n 2, 1) := by decide +kernel
theorem dX0_act_31 : decode cX0_act 31 = .ok (.goto 7, 3) := by decide +kernel
theorem dX0_act_34 : decode cX0_act 34 = .ok (.aload_n 3, 1) := by decide +kernel
theorem dX0_act_35 : decode cX0_act 35 = .ok (.getfield 187, 3) := by decide +kernel
theorem dX0_act_38 : decode cX0_act 38 = .ok (.istore 4, 2) := by decide +kernel
theorem dX0_act_40 : decode cX0_act 40 = .ok (.aload_n 3, 1) := by decide +kernel
theorem dX0_act_41 : decode cX0_act 41 = .ok (.getfield 190, 3) := by decide +kernel
theorem dX0_act_44 : decode cX0_act 44 = .ok (.ifCond .le 10, 3) := by decide +kernel
theorem dX0_act_47 : decode cX0_act 47 = .ok (.aload_n 3, 1) := by decide +kernel
theorem dX0_act_48 : decode cX0_act 48 = .ok (.getfield 190, 3) := by decide +kernel
theorem dX0_act_51 : decode cX0_act 51 = .ok (.goto 15, 3) := by decide +kernel
theorem dX0_act_54 : decode cX0_act 54 = .ok (.aload_n 0, 1) := by decide +kernel
theorem dX0_act_55 : decode cX0_act 55 = .ok (.getfield 21, 3) := by decide +kernel
theorem dX0_act_58 : decode cX0_act 58 = .ok (.aload_n 0, 1) := by decide +kernel
theorem dX0_act_59 : decode cX0_act 59 = .ok (.getfield 12, 3) := by decide +kernel
theorem dX0_act_62 : decode cX0_act 62 = .ok (.iload_n 2, 1) := by decide +kernel
theorem dX0_act_63 : decode cX0_act 63 = .ok (.invokevirtual 191, 3) := by decide +kernel
theorem dX0_act_66 : decode cX0_act 66 = .ok (.istore 5, 2) := by decide +kernel
theorem dX0_act_68 : decode cX0_act 68 = .ok (.iload 5, 2) := by decide +kernel
theorem dX0_act_70 : decode cX0_act 70 = .ok (.ifCond .le 15, 3) := by decide +kernel
theorem dX0_act_73 : decode cX0_act 73 = .ok (.aload_n 0, 1) := by decide +kernel
theorem dX0_act_74 : decode cX0_act 74 = .ok (.getfield 12, 3) := by decide +kernel
theorem dX0_act_77 : decode cX0_act 77 = .ok (.iload 4, 2) := by decide +kernel
theorem dX0_act_79 : decode cX0_act 79 = .ok (.invokevirtual 195, 3) := by decide +kernel
theorem dX0_act_82 : decode cX0_act 82 = .ok (.ifCond .ne 4, 3) := by decide +kernel
theorem dX0_act_85 : decode cX0_act 85 = .ok (.return_, 1) := by decide +kernel
theorem dX0_act_86 : decode cX0_act 86 = .ok (.aload_n 3, 1) := by decide +kernel
theorem dX0_act_87 : decode cX0_act 87 = .ok (.getfield 198, 3) := by decide +kernel
theorem dX0_act_90 : decode cX0_act 90 = .ok (.ifCond .ne 14, 3) := by decide +kernel
theorem dX0_act_93 : decode cX0_act 93 = .ok (.aload_n 0, 1) := by decide +kernel
theorem dX0_act_94 : decode cX0_act 94 = .ok (.iload 4, 2) := by decide +kernel
theorem dX0_act_96 : decode cX0_act 96 = .ok (.iload 5, 2) := by decide +kernel
theorem dX0_act_98 : decode cX0_act 98 = .ok (.invokevirtual 200, 3) := by decide +kernel
theorem dX0_act_101 : decode cX0_act 101 = .ok (.goto 44, 3) := by decide +kernel
theorem dX0_act_104 : decode cX0_act 104 = .ok (.aload_n 3, 1) := by decide +kernel
theorem dX0_act_105 : decode cX0_act 105 = .ok (.getfield 198, 3) := by decide +kernel
theorem dX0_act_108 : decode cX0_act 108 = .ok (.iconst 1, 1) := by decide +kernel
theorem dX0_act_109 : decode cX0_act 109 = .ok (.if_icmp .ne 21, 3) := by decide +kernel
theorem dX0_act_112 : decode cX0_act 112 = .ok (.aload_n 0, 1) := by decide +kernel
theorem dX0_act_113 : decode cX0_act 113 = .ok (.getfield 12, 3) := by decide +kernel
theorem dX0_act_116 : decode cX0_act 116 = .ok (.getfield 65, 3) := by decide +kernel
theorem dX0_act_119 : decode cX0_act 119 = .ok (.iload 4, 2) := by decide +kernel
theorem dX0_act_121 : decode cX0_act 121 = .ok (.aaload, 1) := by decide +kernel
theorem dX0_act_122 : decode cX0_act 122 = .ok (.iload 5, 2) := by decide +kernel
theorem dX0_act_124 : decode cX0_act 124 = .ok (.invokevirtual 140, 3) := by decide +kernel
theorem dX0_act_127 : decode cX0_act 127 = .ok (.goto 18, 3) := by decide +kernel
theorem dX0_act_130 : decode cX0_act 130 = .ok (.aload_n 0, 1) := by decide +kernel
theorem dX0_act_131 : decode cX0_act 131 = .ok (.getfield 12, 3) := by decide +kernel
theorem dX0_act_134 : decode cX0_act 134 = .ok (.getfield 65, 3) := by decide +kernel
theorem dX0_act_137 : decode cX0_act 137 = .ok (.iload 4, 2) := by decide +kernel
theorem dX0_act_139 : decode cX0_act 139 = .ok (.aaload, 1) := by decide +kernel
theorem dX0_act_140 : decode cX0_act 140 = .ok (.iload 5, 2) := by decide +kernel
theorem dX0_act_142 : decode cX0_act 142 = .ok (.invokevirtual 203, 3) := by decide +kernel
theorem dX0_act_145 : decode cX0_act 145 = .ok (.return_, 1) := by decide +kernel
