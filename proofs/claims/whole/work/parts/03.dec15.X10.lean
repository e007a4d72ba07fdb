theorem dX10_lasts_23 : decode cX10_lasts 23 = .ok (.ireturn, 1) := by decide +kernel
theorem dX10_lasts_24 : decode cX10_lasts 24 = .ok (.aload_n 0, 1) := by decide +kernel
theorem dX10_lasts_25 : decode cX10_lasts 25 = .ok (.getfield 20, 3) := by decide +kernel
theorem dX10_lasts_28 : decode cX10_lasts 28 = .ok (.getfield 164, 3) := by decide +kernel
theorem dX10_lasts_31 : decode cX10_lasts 31 = .ok (.iload_n 1, 1) := by decide +kernel
theorem dX10_lasts_32 : decode cX10_lasts 32 = .ok (.aaload, 1) := by decide +kernel
theorem dX10_lasts_33 : decode cX10_lasts 33 = .ok (.getfield 180, 3) := by decide +kernel
theorem dX10_lasts_36 : decode cX10_lasts 36 = .ok (.istore_n 3, 1) := by decide +kernel
theorem dX10_lasts_37 : decode cX10_lasts 37 = .ok (.aload_n 0, 1) := by decide +kernel
theorem dX10_lasts_38 : decode cX10_lasts 38 = .ok (.getfield 20, 3) := by decide +kernel
theorem dX10_lasts_41 : decode cX10_lasts 41 = .ok (.getfield 164, 3) := by decide +kernel
theorem dX10_lasts_44 : decode cX10_lasts 44 = .ok (.iload_n 1, 1) := by decide +kernel
theorem dX10_lasts_45 : decode cX10_lasts 45 = .ok (.aaload, 1) := by decide +kernel
theorem dX10_lasts_46 : decode cX10_lasts 46 = .ok (.iload_n 2, 1) := by decide +kernel
theorem dX10_lasts_47 : decode cX10_lasts 47 = .ok (.putfield 180, 3) := by decide +kernel
theorem dX10_lasts_50 : decode cX10_lasts 50 = .ok (.iload_n 3, 1) := by decide +kernel
theorem dX10_lasts_51 : decode cX10_lasts 51 = .ok (.ireturn, 1) := by decide +kernel
theorem dX10_ends_0 : decode cX10_ends 0 = .ok (.aload_n 0, 1) := by decide +kernel
theorem dX10_ends_1 : decode cX10_ends 1 = .ok (.getfield 20, 3) := by decide +kernel
theorem dX10_ends_4 : decode cX10_ends 4 = .ok (.iload_n 1, 1) := by decide +kernel
theorem dX10_ends_5 : decode cX10_ends 5 = .ok (.invokevirtual 174, 3) := by decide +kernel
theorem dX10_ends_8 : decode cX10_ends 8 = .ok (.ifCond .ne 6, 3) := by decide +kernel
theorem dX10_ends_11 : decode cX10_ends 11 = .ok (.bipush (-2), 2) := by decide +kernel
theorem dX10_ends_13 : decode cX10_ends 13 = .ok (.ireturn, 1) := by decide +kernel
theorem dX10_ends_14 : decode cX10_ends 14 = .ok (.aload_n 0, 1) := by decide +kernel
theorem dX10_ends_15 : decode cX10_ends 15 = .ok (.getfield 20, 3) := by decide +kernel
theorem dX10_ends_18 : decode cX10_ends 18 = .ok (.iload_n 1, 1) := by decide +kernel
theorem dX10_ends_19 : decode cX10_ends 19 = .ok (.invokevirtual 183, 3) := by decide +kernel
theorem dX10_ends_22 : decode cX10_ends 22 = .ok (.aload_n 0, 1) := by decide +kernel
theorem dX10_ends_23 : decode cX10_ends 23 = .ok (.getfield 10, 3) := by decide +kernel
theorem dX10_ends_26 : decode cX10_ends 26 = .ok (.iconst 0, 1) := by decide +kernel
theorem dX10_ends_27 : decode cX10_ends 27 = .ok (.invokevirtual 90, 3) := by decide +kernel
theorem dX10_ends_30 : decode cX10_ends 30 = .ok (.aload_n 0, 1) := by decide +kernel
theorem dX10_ends_31 : decode cX10_ends 31 = .ok (.getfield 20, 3) := by decide +kernel
theorem dX10_ends_34 : decode cX10_ends 34 = .ok (.getfield 161, 3) := by decide +kernel
theorem dX10_ends_37 : decode cX10_ends 37 = .ok (.ireturn, 1) := by decide +kernel
theorem dX10_order_0 : decode cX10_order 0 = .ok (.iload_n 1, 1) := by decide +kernel
theorem dX10_order_1 : decode cX10_order 1 = .ok (.iconst (-1), 1) := by decide +kernel
theorem dX10_order_2 : decode cX10_order 2 = .ok (.if_icmp .ge 6, 3) := by decide +kernel
theorem dX10_order_5 : decode cX10_order 5 = .ok (.bipush (-2), 2) := by decide +kernel
theorem dX10_order_7 : decode cX10_order 7 = .ok (.ireturn, 1) := by decide +kernel
theorem dX10_order_8 : decode cX10_order 8 = .ok (.iload_n 1, 1) := by decide +kernel
theorem dX10_order_9 : decode cX10_order 9 = .ok (.iconst (-1), 1) := by decide +kernel
theorem dX10_order_10 : decode cX10_order 10 = .ok (.if_icmp .ne 11, 3) := by decide +kernel
theorem dX10_order_13 : decode cX10_order 13 = .ok (.aload_n 0, 1) := by decide +kernel
theorem dX10_order_14 : decode cX10_order 14 = .ok (.getfield 27, 3) := by decide +kernel
theorem dX10_order_17 : decode cX10_order 17 = .ok (.getfield 187, 3) := by decide +kernel
theorem dX10_order_20 : decode cX10_order 20 = .ok (.ireturn, 1) := by decide +kernel
theorem dX10_order_21 : decode cX10_order 21 = .ok (.iload_n 1, 1) := by decide +kernel
theorem dX10_order_22 : decode cX10_order 22 = .ok (.aload_n 0, 1) := by decide +kernel
theorem dX10_order_23 : decode cX10_order 23 = .ok (.getfield 27, 3) := by decide +kernel
theorem dX10_order_26 : decode cX10_order 26 = .ok (.getfield 187, 3) := by decide +kernel
theorem dX10_order_29 : decode cX10_order 29 = .ok (.if_icmp .lt 5, 3) := by decide +kernel
theorem dX10_order_32 : decode cX10_order 32 = .ok (.iconst (-1), 1) := by decide +kernel
theorem dX10_order_33 : decode cX10_order 33 = .ok (.ireturn, 1) := by decide +kernel
theorem dX10_order_34 : decode cX10_order 34 = .ok (.aload_n 0, 1) := by decide +kernel
theorem dX10_order_35 : decode cX10_order 35 = .ok (.getfield 27, 3) := by decide +kernel
theorem dX10_order_38 : decode cX10_order 38 = .ok (.getfield 190, 3) := by decide +kernel
theorem dX10_order_41 : decode cX10_order 41 = .ok (.iload_n 1, 1) := by decide +kernel
theorem dX10_order_42 : decode cX10_order 42 = .ok (.iaload, 1) := by decide +kernel
theorem dX10_order_43 : decode cX10_order 43 = .ok (.ireturn, 1) := by decide +kernel
theorem dX10_depends_0 : decode cX10_depends 0 = .ok (.aload_n 0, 1) := by decide +kernel
theorem dX10_depends_1 : decode cX10_depends 1 = .ok (.getfield 20, 3) := by decide +kernel
theorem dX10_depends_4 : decode cX10_depends 4 = .ok (.iload_n 1, 1) := by decide +kernel
theorem dX10_depends_5 : decode cX10_depends 5 = .ok (.invokevirtual 174, 3) := by decide +kernel
theorem dX10_depends_8 : decode cX10_depends 8 = .ok (.ifCond .eq 19, 3) := by decide +kernel
theorem dX10_depends_11 : decode cX10_depends 11 = .ok (.aload_n 0, 1) := by decide +kernel
theorem dX10_depends_12 : decode cX10_depends 12 = .ok (.getfield 20, 3) := by decide +kernel
theorem dX10_depends_15 : decode cX10_depends 15 = .ok (.iload_n 2, 1) := by decide +kernel
theorem dX10_depends_16 : decode cX10_depends 16 = .ok (.invokevirtual 174, 3) := by decide +kernel
theorem dX10_depends_19 : decode cX10_depends 19 = .ok (.ifCond .eq 8, 3) := by decide +kernel
theorem dX10_depends_22 : decode cX10_depends 22 = .ok (.iload_n 1, 1) := by decide +kernel
theorem dX10_depends_23 : decode cX10_depends 23 = .ok (.iload_n 2, 1) := by decide +kernel
theorem dX10_depends_24 : decode cX10_depends 24 = .ok (.if_icmp .ne 6, 3) := by decide +kernel
theorem dX10_depends_27 : decode cX10_depends 27 = .ok (.bipush (-2), 2) := by decide +kernel
theorem dX10_depends_29 : decode cX10_depends 29 = .ok (.ireturn, 1) := by decide +kernel
theorem dX10_depends_30 : decode cX10_depends 30 = .ok (.aload_n 0, 1) := by decide +kernel
theorem dX10_depends_31 : decode cX10_depends 31 = .ok (.getfield 20, 3) := by decide +kernel
theorem dX10_depends_34 : decode cX10_depends 34 = .ok (.getfield 164, 3) := by decide +kernel
theorem dX10_depends_37 : decode cX10_depends 37 = .ok (.iload_n 1, 1) := by decide +kernel
theorem dX10_depends_38 : decode cX10_depends 38 = .ok (.aaload, 1) := by decide +kernel
theorem dX10_depends_39 : decode cX10_depends 39 = .ok (.astore_n 3, 1) := by decide +kernel
theorem dX10_depends_40 : decode cX10_depends 40 = .ok (.aload_n 0, 1) := by decide +kernel
theorem dX10_depends_41 : decode cX10_depends 41 = .ok (.getfield 20, 3) := by decide +kernel
theorem dX10_depends_44 : decode cX10_depends 44 = .ok (.getfield 164, 3) := by decide +kernel
theorem dX10_depends_47 : decode cX10_depends 47 = .ok (.iload_n 2, 1) := by decide +kernel
theorem dX10_depends_48 : decode cX10_depends 48 = .ok (.aaload, 1) := by decide +kernel
theorem dX10_depends_49 : decode cX10_depends 49 = .ok (.astore 4, 2) := by decide +kernel
theorem dX10_depends_51 : decode cX10_depends 51 = .ok (.aload_n 3, 1) := by decide +kernel
theorem dX10_depends_52 : decode cX10_depends 52 = .ok (.invokevirtual 193, 3) := by decide +kernel
theorem dX10_depends_55 : decode cX10_depends 55 = .ok (.aload 4, 2) := by decide +kernel
theorem dX10_depends_57 : decode cX10_depends 57 = .ok (.invokevirtual 193, 3) := by decide +kernel
theorem dX10_depends_60 : decode cX10_depends 60 = .ok (.if_icmp .ne 26, 3) := by decide +kernel
theorem dX10_depends_63 : decode cX10_depends 63 = .ok (.aload_n 0, 1) := by decide +kernel
theorem dX10_depends_64 : decode cX10_depends 64 = .ok (.getfield 20, 3) := by decide +kernel
theorem dX10_depends_67 : decode cX10_depends 67 = .ok (.aload_n 3, 1) := by decide +kernel
theorem dX10_depends_68 : decode cX10_depends 68 = .ok (.invokevirtual 197, 3) := by decide +kernel
theorem dX10_depends_71 : decode cX10_depends 71 = .ok (.ifCond .eq 15, 3) := by decide +kernel
theorem dX10_depends_74 : decode cX10_depends 74 = .ok (.aload_n 0, 1) := by decide +kernel
theorem dX10_depends_75 : decode cX10_depends 75 = .ok (.getfield 20, 3) := by decide +kernel
theorem dX10_depends_78 : decode cX10_depends 78 = .ok (.aload 4, 2) := by decide +kernel
theorem dX10_depends_80 : decode cX10_depends 80 = .ok (.invokevirtual 197, 3) := by decide +kernel
theorem dX10_depends_83 : decode cX10_depends 83 = .ok (.ifCond .ne 6, 3) := by decide +kernel
theorem dX10_depends_86 : decode cX10_depends 86 = .ok (.bipush (-3), 2) := by decide +kernel
theorem dX10_depends_88 : decode cX10_depends 88 = .ok (.ireturn, 1) := by decide +kernel
theorem dX10_depends_89 : decode cX10_depends 89 = .ok (.aload_n 0, 1) := by decide +kernel
theorem dX10_depends_90 : decode cX10_depends 90 = .ok (.getfield 40, 3) := by decide +kernel
theorem dX10_depends_93 : decode cX10_depends 93 = .ok (.aload_n 0, 1) := by decide +kernel
theorem dX10_depends_94 : decode cX10_depends 94 = .ok (.getfield 20, 3) := by decide +kernel
theorem dX10_depends_97 : decode cX10_depends 97 = .ok (.aload_n 3, 1) := by decide +kernel
theorem dX10_depends_98 : decode cX10_depends 98 = .ok (.invokevirtual 193, 3) := by decide +kernel
theorem dX10_depends_101 : decode cX10_depends 101 = .ok (.invokevirtual 78, 3) := by decide +kernel
theorem dX10_depends_104 : decode cX10_depends 104 = .ok (.aload_n 0, 1) := by decide +kernel
theorem dX10_depends_105 : decode cX10_depends 105 = .ok (.getfield 40, 3) := by decide +kernel
theorem dX10_depends_108 : decode cX10_depends 108 = .ok (.aload_n 0, 1) := by decide +kernel
theorem dX10_depends_109 : decode cX10_depends 109 = .ok (.getfield 20, 3) := by decide +kernel
theorem dX10_depends_112 : decode cX10_depends 112 = .ok (.aload_n 3, 1) := by decide +kernel
theorem dX10_depends_113 : decode cX10_depends 113 = .ok (.aload 4, 2) := by decide +kernel
theorem dX10_depends_115 : decode cX10_depends 115 = .ok (.invokevirtual 201, 3) := by decide +kernel
theorem dX10_depends_118 : decode cX10_depends 118 = .ok (.ifCond .eq 7, 3) := by decide +kernel
theorem dX10_depends_121 : decode cX10_depends 121 = .ok (.iconst 1, 1) := by decide +kernel
theorem dX10_depends_122 : decode cX10_depends 122 = .ok (.goto 4, 3) := by decide +kernel
theorem dX10_depends_125 : decode cX10_depends 125 = .ok (.iconst 0, 1) := by decide +kernel
theorem dX10_depends_126 : decode cX10_depends 126 = .ok (.ireturn, 1) := by decide +kernel
theorem dX10_rule_0 : decode cX10_rule 0 = .ok (.iload_n 1, 1) := by decide +kernel
theorem dX10_rule_1 : decode cX10_rule 1 = .ok (.iconst 0, 1) := by decide +kernel
theorem dX10_rule_2 : decode cX10_rule 2 = .ok (.iconst 4, 1) := by decide +kernel
theorem dX10_rule_3 : decode cX10_rule 3 = .ok (.invokestatic 82, 3) := by decide +kernel
theorem dX10_rule_6 : decode cX10_rule 6 = .ok (.ifCond .eq 11, 3) := by decide +kernel
theorem dX10_rule_9 : decode cX10_rule 9 = .ok (.iload_n 2, 1) := by decide +kernel
theorem dX10_rule_10 : decode cX10_rule 10 = .ok (.iload_n 3, 1) := by decide +kernel
theorem dX10_rule_11 : decode cX10_rule 11 = .ok (.invokestatic 151, 3) := by decide +kernel
theorem dX10_rule_14 : decode cX10_rule 14 = .ok (.ifCond .ne 6, 3) := by decide +kernel
theorem dX10_rule_17 : decode cX10_rule 17 = .ok (.bipush (-2), 2) := by decide +kernel
theorem dX10_rule_19 : decode cX10_rule 19 = .ok (.ireturn, 1) := by decide +kernel
theorem dX10_rule_20 : decode cX10_rule 20 = .ok (.iload_n 1, 1) := by decide +kernel
theorem dX10_rule_21 : decode cX10_rule 21 = .ok (.ifCond .ne 17, 3) := by decide +kernel
theorem dX10_rule_24 : decode cX10_rule 24 = .ok (.iload 4, 2) := by decide +kernel
theorem dX10_rule_26 : decode cX10_rule 26 = .ok (.iconst 1, 1) := by decide +kernel
theorem dX10_rule_27 : decode cX10_rule 27 = .ok (.bipush 99, 2) := by decide +kernel
theorem dX10_rule_29 : decode cX10_rule 29 = .ok (.invokestatic 82, 3) := by decide +kernel
theorem dX10_rule_32 : decode cX10_rule 32 = .ok (.ifCond .ne 6, 3) := by decide +kernel
theorem dX10_rule_35 : decode cX10_rule 35 = .ok (.bipush (-2), 2) := by decide +kernel
theorem dX10_rule_37 : decode cX10_rule 37 = .ok (.ireturn, 1) := by decide +kernel
theorem dX10_rule_38 : decode cX10_rule 38 = .ok (.iload_n 1, 1) := by decide +kernel
theorem dX10_rule_39 : decode cX10_rule 39 = .ok (.iconst 3, 1) := by decide +kernel
theorem dX10_rule_40 : decode cX10_rule 40 = .ok (.if_icmp .ne 17, 3) := by decide +kernel
theorem dX10_rule_43 : decode cX10_rule 43 = .ok (.iload 4, 2) := by decide +kernel
theorem dX10_rule_45 : decode cX10_rule 45 = .ok (.iconst 0, 1) := by decide +kernel
theorem dX10_rule_46 : decode cX10_rule 46 = .ok (.bipush 7, 2) := by decide +kernel
theorem dX10_rule_48 : decode cX10_rule 48 = .ok (.invokestatic 82, 3) := by decide +kernel
theorem dX10_rule_51 : decode cX10_rule 51 = .ok (.ifCond .ne 6, 3) := by decide +kernel
theorem dX10_rule_54 : decode cX10_rule 54 = .ok (.bipush (-2), 2) := by decide +kernel
theorem dX10_rule_56 : decode cX10_rule 56 = .ok (.ireturn, 1) := by decide +kernel
theorem dX10_rule_57 : decode cX10_rule 57 = .ok (.aload_n 0, 1) := by decide +kernel
theorem dX10_rule_58 : decode cX10_rule 58 = .ok (.getfield 20, 3) := by decide +kernel
theorem dX10_rule_61 : decode cX10_rule 61 = .ok (.getfield 205, 3) := by decide +kernel
theorem dX10_rule_64 : decode cX10_rule 64 = .ok (.bipush 8, 2) := by decide +kernel
theorem dX10_rule_66 : decode cX10_rule 66 = .ok (.if_icmp .lt 6, 3) := by decide +kernel
theorem dX10_rule_69 : decode cX10_rule 69 = .ok (.bipush (-4), 2) := by decide +kernel
theorem dX10_rule_71 : decode cX10_rule 71 = .ok (.ireturn, 1) := by decide +kernel
theorem dX10_rule_72 : decode cX10_rule 72 = .ok (.aload_n 0, 1) := by decide +kernel
theorem dX10_rule_73 : decode cX10_rule 73 = .ok (.getfield 20, 3) := by decide +kernel
theorem dX10_rule_76 : decode cX10_rule 76 = .ok (.getfield 205, 3) := by decide +kernel
theorem dX10_rule_79 : decode cX10_rule 79 = .ok (.istore 5, 2) := by decide +kernel
theorem dX10_rule_81 : decode cX10_rule 81 = .ok (.aload_n 0, 1) := by decide +kernel
theorem dX10_rule_82 : decode cX10_rule 82 = .ok (.getfield 20, 3) := by decide +kernel
theorem dX10_rule_85 : decode cX10_rule 85 = .ok (.getfield 208, 3) := by decide +kernel
theorem dX10_rule_88 : decode cX10_rule 88 = .ok (.iload 5, 2) := by decide +kernel
theorem dX10_rule_90 : decode cX10_rule 90 = .ok (.aaload, 1) := by decide +kernel
theorem dX10_rule_91 : decode cX10_rule 91 = .ok (.iload_n 1, 1) := by decide +kernel
theorem dX10_rule_92 : decode cX10_rule 92 = .ok (.iload_n 2, 1) := by decide +kernel
theorem dX10_rule_93 : decode cX10_rule 93 = .ok (.iload_n 3, 1) := by decide +kernel
theorem dX10_rule_94 : decode cX10_rule 94 = .ok (.iload 4, 2) := by decide +kernel
theorem dX10_rule_96 : decode cX10_rule 96 = .ok (.invokevirtual 212, 3) := by decide +kernel
theorem dX10_rule_99 : decode cX10_rule 99 = .ok (.aload_n 0, 1) := by decide +kernel
theorem dX10_rule_100 : decode cX10_rule 100 = .ok (.getfield 20, 3) := by decide +kernel
theorem dX10_rule_103 : decode cX10_rule 103 = .ok (.dup, 1) := by decide +kernel
theorem dX10_rule_104 : decode cX10_rule 104 = .ok (.getfield 205, 3) := by decide +kernel
theorem dX10_rule_107 : decode cX10_rule 107 = .ok (.iconst 1, 1) := by decide +kernel
theorem dX10_rule_108 : decode cX10_rule 108 = .ok (.iadd, 1) := by decide +kernel
theorem dX10_rule_109 : decode cX10_rule 109 = .ok (.putfield 205, 3) := by decide +kernel
theorem dX10_rule_112 : decode cX10_rule 112 = .ok (.iload 5, 2) := by decide +kernel
theorem dX10_rule_114 : decode cX10_rule 114 = .ok (.ireturn, 1) := by decide +kernel
theorem dX10_ruleOf_0 : decode cX10_ruleOf 0 = .ok (.aload_n 0, 1) := by decide +kernel
theorem dX10_ruleOf_1 : decode cX10_ruleOf 1 = .ok (.getfield 20, 3) := by decide +kernel
theorem dX10_ruleOf_4 : decode cX10_ruleOf 4 = .ok (.iload_n 1, 1) := by decide +kernel
theorem dX10_ruleOf_5 : decode cX10_ruleOf 5 = .ok (.invokevirtual 216, 3) := by decide +kernel
theorem dX10_ruleOf_8 : decode cX10_ruleOf 8 = .ok (.ifCond .eq 12, 3) := by decide +kernel
theorem dX10_ruleOf_11 : decode cX10_ruleOf 11 = .ok (.iload_n 2, 1) := by decide +kernel
theorem dX10_ruleOf_12 : decode cX10_ruleOf 12 = .ok (.iconst 0, 1) := by decide +kernel
theorem dX10_ruleOf_13 : decode cX10_ruleOf 13 = .ok (.iconst 1, 1) := by decide +kernel
theorem dX10_ruleOf_14 : decode cX10_ruleOf 14 = .ok (.invokestatic 82, 3) := by decide +kernel
theorem dX10_ruleOf_17 : decode cX10_ruleOf 17 = .ok (.ifCond .ne 6, 3) := by decide +kernel
theorem dX10_ruleOf_20 : decode cX10_ruleOf 20 = .ok (.bipush (-2), 2) := by decide +kernel
theorem dX10_ruleOf_22 : decode cX10_ruleOf 22 = .ok (.ireturn, 1) := by decide +kernel
theorem dX10_ruleOf_23 : decode cX10_ruleOf 23 = .ok (.iload_n 2, 1) := by decide +kernel
theorem dX10_ruleOf_24 : decode cX10_ruleOf 24 = .ok (.ifCond .ne 18, 3) := by decide +kernel
theorem dX10_ruleOf_27 : decode cX10_ruleOf 27 = .ok (.aload_n 0, 1) := by decide +kernel
theorem dX10_ruleOf_28 : decode cX10_ruleOf 28 = .ok (.getfield 20, 3) := by decide +kernel
theorem dX10_ruleOf_31 : decode cX10_ruleOf 31 = .ok (.getfield 208, 3) := by decide +kernel
theorem dX10_ruleOf_34 : decode cX10_ruleOf 34 = .ok (.iload_n 1, 1) := by decide +kernel
theorem dX10_ruleOf_35 : decode cX10_ruleOf 35 = .ok (.aaload, 1) := by decide +kernel
theorem dX10_ruleOf_36 : decode cX10_ruleOf 36 = .ok (.getfield 219, 3) := by decide +kernel
theorem dX10_ruleOf_39 : decode cX10_ruleOf 39 = .ok (.goto 15, 3) := by decide +kernel
theorem dX10_ruleOf_42 : decode cX10_ruleOf 42 = .ok (.aload_n 0, 1) := by decide +kernel
theorem dX10_ruleOf_43 : decode cX10_ruleOf 43 = .ok (.getfield 20, 3) := by decide +kernel
theorem dX10_ruleOf_46 : decode cX10_ruleOf 46 = .ok (.getfield 208, 3) := by decide +kernel
theorem dX10_ruleOf_49 : decode cX10_ruleOf 49 = .ok (.iload_n 1, 1) := by decide +kernel
theorem dX10_ruleOf_50 : decode cX10_ruleOf 50 = .ok (.aaload, 1) := by decide +kernel
theorem dX10_ruleOf_51 : decode cX10_ruleOf 51 = .ok (.getfield 222, 3) := by decide +kernel
theorem dX10_ruleOf_54 : decode cX10_ruleOf 54 = .ok (.ireturn, 1) := by decide +kernel
theorem dX10_unrule_0 : decode cX10_unrule 0 = .ok (.aload_n 0, 1) := by decide +kernel
theorem dX10_unrule_1 : decode cX10_unrule 1 = .ok (.getfield 20, 3) := by decide +kernel
theorem dX10_unrule_4 : decode cX10_unrule 4 = .ok (.iload_n 1, 1) := by decide +kernel
theorem dX10_unrule_5 : decode cX10_unrule 5 = .ok (.invokevirtual 216, 3) := by decide +kernel
theorem dX10_unrule_8 : decode cX10_unrule 8 = .ok (.ifCond .ne 6, 3) := by decide +kernel
theorem dX10_unrule_11 : decode cX10_unrule 11 = .ok (.bipush (-2), 2) := by decide +kernel
theorem dX10_unrule_13 : decode cX10_unrule 13 = .ok (.ireturn, 1) := by decide +kernel
theorem dX10_unrule_14 : decode cX10_unrule 14 = .ok (.aload_n 0, 1) := by decide +kernel
theorem dX10_unrule_15 : decode cX10_unrule 15 = .ok (.getfield 20, 3) := by decide +kernel
theorem dX10_unrule_18 : decode cX10_unrule 18 = .ok (.iload_n 1, 1) := by decide +kernel
theorem dX10_unrule_19 : decode cX10_unrule 19 = .ok (.invokevirtual 225, 3) := by decide +kernel
theorem dX10_unrule_22 : decode cX10_unrule 22 = .ok (.aload_n 0, 1) := by decide +kernel
theorem dX10_unrule_23 : decode cX10_unrule 23 = .ok (.getfield 20, 3) := by decide +kernel
theorem dX10_unrule_26 : decode cX10_unrule 26 = .ok (.getfield 205, 3) := by decide +kernel
theorem dX10_unrule_29 : decode cX10_unrule 29 = .ok (.ireturn, 1) := by decide +kernel
theorem dX10_choice_0 : decode cX10_choice 0 = .ok (.iload_n 1, 1) := by decide +kernel
theorem dX10_choice_1 : decode cX10_choice 1 = .ok (.iconst 0, 1) := by decide +kernel
theorem dX10_choice_2 : decode cX10_choice 2 = .ok (.iconst 1, 1) := by decide +kernel
theorem dX10_choice_3 : decode cX10_choice 3 = .ok (.invokestatic 82, 3) := by decide +kernel
theorem dX10_choice_6 : decode cX10_choice 6 = .ok (.ifCond .eq 12, 3) := by decide +kernel
theorem dX10_choice_9 : decode cX10_choice 9 = .ok (.iload_n 2, 1) := by decide +kernel
theorem dX10_choice_10 : decode cX10_choice 10 = .ok (.iconst 0, 1) := by decide +kernel
theorem dX10_choice_11 : decode cX10_choice 11 = .ok (.iconst 1, 1) := by decide +kernel
theorem dX10_choice_12 : decode cX10_choice 12 = .ok (.invokestatic 82, 3) := by decide +kernel
theorem dX10_choice_15 : decode cX10_choice 15 = .ok (.ifCond .ne 6, 3) := by decide +kernel
theorem dX10_choice_18 : decode cX10_choice 18 = .ok (.bipush (-2), 2) := by decide +kernel
theorem dX10_choice_20 : decode cX10_choice 20 = .ok (.ireturn, 1) := by decide +kernel
theorem dX10_choice_21 : decode cX10_choice 21 = .ok (.aload_n 0, 1) := by decide +kernel
theorem dX10_choice_22 : decode cX10_choice 22 = .ok (.getfield 20, 3) := by decide +kernel
theorem dX10_choice_25 : decode cX10_choice 25 = .ok (.getfield 228, 3) := by decide +kernel
theorem dX10_choice_28 : decode cX10_choice 28 = .ok (.iload_n 1, 1) := by decide +kernel
theorem dX10_choice_29 : decode cX10_choice 29 = .ok (.iaload, 1) := by decide +kernel
theorem dX10_choice_30 : decode cX10_choice 30 = .ok (.istore_n 3, 1) := by decide +kernel
theorem dX10_choice_31 : decode cX10_choice 31 = .ok (.aload_n 0, 1) := by decide +kernel
theorem dX10_choice_32 : decode cX10_choice 32 = .ok (.getfield 20, 3) := by decide +kernel
theorem dX10_choice_35 : decode cX10_choice 35 = .ok (.getfield 228, 3) := by decide +kernel
theorem dX10_choice_38 : decode cX10_choice 38 = .ok (.iload_n 1, 1) := by decide +kernel
theorem dX10_choice_39 : decode cX10_choice 39 = .ok (.iload_n 2, 1) := by decide +kernel
theorem dX10_choice_40 : decode cX10_choice 40 = .ok (.iastore, 1) := by decide +kernel
theorem dX10_choice_41 : decode cX10_choice 41 = .ok (.iload_n 3, 1) := by decide +kernel
theorem dX10_choice_42 : decode cX10_choice 42 = .ok (.ireturn, 1) := by decide +kernel
theorem dX10_watch_0 : decode cX10_watch 0 = .ok (.iload_n 1, 1) := by decide +kernel
theorem dX10_watch_1 : decode cX10_watch 1 = .ok (.iconst 0, 1) := by decide +kernel
theorem dX10_watch_2 : decode cX10_watch 2 = .ok (.iconst 1, 1) := by decide +kernel
theorem dX10_watch_3 : decode cX10_watch 3 = .ok (.invokestatic 82, 3) := by decide +kernel
theorem dX10_watch_6 : decode cX10_watch 6 = .ok (.ifCond .eq 21, 3) := by decide +kernel
theorem dX10_watch_9 : decode cX10_watch 9 = .ok (.iload_n 2, 1) := by decide +kernel
theorem dX10_watch_10 : decode cX10_watch 10 = .ok (.iconst 0, 1) := by decide +kernel
theorem dX10_watch_11 : decode cX10_watch 11 = .ok (.iconst 2, 1) := by decide +kernel
theorem dX10_watch_12 : decode cX10_watch 12 = .ok (.invokestatic 82, 3) := by decide +kernel
theorem dX10_watch_15 : decode cX10_watch 15 = .ok (.ifCond .eq 12, 3) := by decide +kernel
theorem dX10_watch_18 : decode cX10_watch 18 = .ok (.iload_n 3, 1) := by decide +kernel
theorem dX10_watch_19 : decode cX10_watch 19 = .ok (.iconst 0, 1) := by decide +kernel
theorem dX10_watch_20 : decode cX10_watch 20 = .ok (.iconst 2, 1) := by decide +kernel
theorem dX10_watch_21 : decode cX10_watch 21 = .ok (.invokestatic 82, 3) := by decide +kernel
theorem dX10_watch_24 : decode cX10_watch 24 = .ok (.ifCond .ne 6, 3) := by decide +kernel
theorem dX10_watch_27 : decode cX10_watch 27 = .ok (.bipush (-2), 2) := by decide +kernel
theorem dX10_watch_29 : decode cX10_watch 29 = .ok (.ireturn, 1) := by decide +kernel
theorem dX10_watch_30 : decode cX10_watch 30 = .ok (.iload 4, 2) := by decide +kernel
theorem dX10_watch_32 : decode cX10_watch 32 = .ok (.iconst (-1), 1) := by decide +kernel
theorem dX10_watch_33 : decode cX10_watch 33 = .ok (.bipush 7, 2) := by decide +kernel
theorem dX10_watch_35 : decode cX10_watch 35 = .ok (.invokestatic 82, 3) := by decide +kernel
theorem dX10_watch_38 : decode cX10_watch 38 = .ok (.ifCond .eq 14, 3) := by decide +kernel
theorem dX10_watch_41 : decode cX10_watch 41 = .ok (.iload 5, 2) := by decide +kernel
theorem dX10_watch_43 : decode cX10_watch 43 = .ok (.iconst 0, 1) := by decide +kernel
theorem dX10_watch_44 : decode cX10_watch 44 = .ok (.bipush 9, 2) := by decide +kernel
theorem dX10_watch_46 : decode cX10_watch 46 = .ok (.invokestatic 82, 3) := by decide +kernel
theorem dX10_watch_49 : decode cX10_watch 49 = .ok (.ifCond .ne 6, 3) := by decide +kernel
theorem dX10_watch_52 : decode cX10_watch 52 = .ok (.bipush (-2), 2) := by decide +kernel
theorem dX10_watch_54 : decode cX10_watch 54 = .ok (.ireturn, 1) := by decide +kernel
theorem dX10_watch_55 : decode cX10_watch 55 = .ok (.aload_n 0, 1) := by decide +kernel
theorem dX10_watch_56 : decode cX10_watch 56 = .ok (.getfield 20, 3) := by decide +kernel
theorem dX10_watch_59 : decode cX10_watch 59 = .ok (.getfield 231, 3) := by decide +kernel
theorem dX10_watch_62 : decode cX10_watch 62 = .ok (.bipush 8, 2) := by decide +kernel
theorem dX10_watch_64 : decode cX10_watch 64 = .ok (.if_icmp .lt 6, 3) := by decide +kernel
theorem dX10_watch_67 : decode cX10_watch 67 = .ok (.bipush (-4), 2) := by decide +kernel
theorem dX10_watch_69 : decode cX10_watch 69 = .ok (.ireturn, 1) := by decide +kernel
theorem dX10_watch_70 : decode cX10_watch 70 = .ok (.aload_n 0, 1) := by decide +kernel
theorem dX10_watch_71 : decode cX10_watch 71 = .ok (.getfield 20, 3) := by decide +kernel
theorem dX10_watch_74 : decode cX10_watch 74 = .ok (.getfield 231, 3) := by decide +kernel
theorem dX10_watch_77 : decode cX10_watch 77 = .ok (.istore 6, 2) := by decide +kernel
theorem dX10_watch_79 : decode cX10_watch 79 = .ok (.aload_n 0, 1) := by decide +kernel
theorem dX10_watch_80 : decode cX10_watch 80 = .ok (.getfield 20, 3) := by decide +kernel
theorem dX10_watch_83 : decode cX10_watch 83 = .ok (.getfield 234, 3) := by decide +kernel
theorem dX10_watch_86 : decode cX10_watch 86 = .ok (.iload 6, 2) := by decide +kernel
theorem dX10_watch_88 : decode cX10_watch 88 = .ok (.aaload, 1) := by decide +kernel
theorem dX10_watch_89 : decode cX10_watch 89 = .ok (.iload_n 1, 1) := by decide +kernel
theorem dX10_watch_90 : decode cX10_watch 90 = .ok (.iload_n 2, 1) := by decide +kernel
theorem dX10_watch_91 : decode cX10_watch 91 = .ok (.iload_n 3, 1) := by decide +kernel
theorem dX10_watch_92 : decode cX10_watch 92 = .ok (.iload 4, 2) := by decide +kernel
theorem dX10_watch_94 : decode cX10_watch 94 = .ok (.iload 5, 2) := by decide +kernel
theorem dX10_watch_96 : decode cX10_watch 96 = .ok (.invokevirtual 238, 3) := by decide +kernel
theorem dX10_watch_99 : decode cX10_watch 99 = .ok (.aload_n 0, 1) := by decide +kernel
theorem dX10_watch_100 : decode cX10_watch 100 = .ok (.getfield 20, 3) := by decide +kernel
theorem dX10_watch_103 : decode cX10_watch 103 = .ok (.dup, 1) := by decide +kernel
theorem dX10_watch_104 : decode cX10_watch 104 = .ok (.getfield 231, 3) := by decide +kernel
theorem dX10_watch_107 : decode cX10_watch 107 = .ok (.iconst 1, 1) := by decide +kernel
theorem dX10_watch_108 : decode cX10_watch 108 = .ok (.iadd, 1) := by decide +kernel
theorem dX10_watch_109 : decode cX10_watch 109 = .ok (.putfield 231, 3) := by decide +kernel
theorem dX10_watch_112 : decode cX10_watch 112 = .ok (.iload 6, 2) := by decide +kernel
theorem dX10_watch_114 : decode cX10_watch 114 = .ok (.ireturn, 1) := by decide +kernel
theorem dX10_watches_0 : decode cX10_watches 0 = .ok (.aload_n 0, 1) := by decide +kernel
theorem dX10_watches_1 : decode cX10_watches 1 = .ok (.getfield 20, 3) := by decide +kernel
theorem dX10_watches_4 : decode cX10_watches 4 = .ok (.iload_n 1, 1) := by decide +kernel
theorem dX10_watches_5 : decode cX10_watches 5 = .ok (.invokevirtual 241, 3) := by decide +kernel
theorem dX10_watches_8 : decode cX10_watches 8 = .ok (.ifCond .eq 11, 3) := by decide +kernel
theorem dX10_watches_11 : decode cX10_watches 11 = .ok (.iload_n 2, 1) := by decide +kernel
theorem dX10_watches_12 : decode cX10_watches 12 = .ok (.iload_n 3, 1) := by decide +kernel
theorem dX10_watches_13 : decode cX10_watches 13 = .ok (.invokestatic 151, 3) := by decide +kernel
theorem dX10_watches_16 : decode cX10_watches 16 = .ok (.ifCond .ne 6, 3) := by decide +kernel
theorem dX10_watches_19 : decode cX10_watches 19 = .ok (.bipush (-2), 2) := by decide +kernel
theorem dX10_watches_21 : decode cX10_watches 21 = .ok (.ireturn, 1) := by decide +kernel
theorem dX10_watches_22 : decode cX10_watches 22 = .ok (.aload_n 0, 1) := by decide +kernel
theorem dX10_watches_23 : decode cX10_watches 23 = .ok (.getfield 20, 3) := by decide +kernel
theorem dX10_watches_26 : decode cX10_watches 26 = .ok (.getfield 234, 3) := by decide +kernel
theorem dX10_watches_29 : decode cX10_watches 29 = .ok (.iload_n 1, 1) := by decide +kernel
theorem dX10_watches_30 : decode cX10_watches 30 = .ok (.aaload, 1) := by decide +kernel
theorem dX10_watches_31 : decode cX10_watches 31 = .ok (.astore 4, 2) := by decide +kernel
theorem dX10_watches_33 : decode cX10_watches 33 = .ok (.aload 4, 2) := by decide +kernel
theorem dX10_watches_35 : decode cX10_watches 35 = .ok (.getfield 244, 3) := by decide +kernel
theorem dX10_watches_38 : decode cX10_watches 38 = .ok (.istore 5, 2) := by decide +kernel
theorem dX10_watches_40 : decode cX10_watches 40 = .ok (.aload 4, 2) := by decide +kernel
theorem dX10_watches_42 : decode cX10_watches 42 = .ok (.iload_n 2, 1) := by decide +kernel
theorem dX10_watches_43 : decode cX10_watches 43 = .ok (.putfield 244, 3) := by decide +kernel
theorem dX10_watches_46 : decode cX10_watches 46 = .ok (.aload 4, 2) := by decide +kernel
theorem dX10_watches_48 : decode cX10_watches 48 = .ok (.iload_n 3, 1) := by decide +kernel
theorem dX10_watches_49 : decode cX10_watches 49 = .ok (.putfield 247, 3) := by decide +kernel
theorem dX10_watches_52 : decode cX10_watches 52 = .ok (.iload 5, 2) := by decide +kernel
theorem dX10_watches_54 : decode cX10_watches 54 = .ok (.ireturn, 1) := by decide +kernel
theorem dX10_unwatch_0 : decode cX10_unwatch 0 = .ok (.aload_n 0, 1) := by decide +kernel
theorem dX10_unwatch_1 : decode cX10_unwatch 1 = .ok (.getfield 20, 3) := by decide +kernel
theorem dX10_unwatch_4 : decode cX10_unwatch 4 = .ok (.iload_n 1, 1) := by decide +kernel
theorem dX10_unwatch_5 : decode cX10_unwatch 5 = .ok (.invokevirtual 241, 3) := by decide +kernel
theorem dX10_unwatch_8 : decode cX10_unwatch 8 = .ok (.ifCond .ne 6, 3) := by decide +kernel
theorem dX10_unwatch_11 : decode cX10_unwatch 11 = .ok (.bipush (-2), 2) := by decide +kernel
theorem dX10_unwatch_13 : decode cX10_unwatch 13 = .ok (.ireturn, 1) := by decide +kernel
theorem dX10_unwatch_14 : decode cX10_unwatch 14 = .ok (.aload_n 0, 1) := by decide +kernel
theorem dX10_unwatch_15 : decode cX10_unwatch 15 = .ok (.getfield 20, 3) := by decide +kernel
theorem dX10_unwatch_18 : decode cX10_unwatch 18 = .ok (.iload_n 1, 1) := by decide +kernel
theorem dX10_unwatch_19 : decode cX10_unwatch 19 = .ok (.invokevirtual 250, 3) := by decide +kernel
theorem dX10_unwatch_22 : decode cX10_unwatch 22 = .ok (.aload_n 0, 1) := by decide +kernel
theorem dX10_unwatch_23 : decode cX10_unwatch 23 = .ok (.getfield 20, 3) := by decide +kernel
theorem dX10_unwatch_26 : decode cX10_unwatch 26 = .ok (.getfield 231, 3) := by decide +kernel
theorem dX10_unwatch_29 : decode cX10_unwatch 29 = .ok (.ireturn, 1) := by decide +kernel
theorem dX10_hurt_0 : decode cX10_hurt 0 = .ok (.aload_n 0, 1) := by decide +kernel
theorem dX10_hurt_1 : decode cX10_hurt 1 = .ok (.getfield 20, 3) := by decide +kernel
theorem dX10_hurt_4 : decode cX10_hurt 4 = .ok (.iload_n 1, 1) := by decide +kernel
theorem dX10_hurt_5 : decode cX10_hurt 5 = .ok (.invokevirtual 94, 3) := by decide +kernel
theorem dX10_hurt_8 : decode cX10_hurt 8 = .ok (.ifCond .eq 13, 3) := by decide +kernel
theorem dX10_hurt_11 : decode cX10_hurt 11 = .ok (.iload_n 2, 1) := by decide +kernel
theorem dX10_hurt_12 : decode cX10_hurt 12 = .ok (.iconst 1, 1) := by decide +kernel
theorem dX10_hurt_13 : decode cX10_hurt 13 = .ok (.bipush 99, 2) := by decide +kernel
theorem dX10_hurt_15 : decode cX10_hurt 15 = .ok (.invokestatic 82, 3) := by decide +kernel
theorem dX10_hurt_18 : decode cX10_hurt 18 = .ok (.ifCond .ne 6, 3) := by decide +kernel
theorem dX10_hurt_21 : decode cX10_hurt 21 = .ok (.bipush (-2), 2) := by decide +kernel
theorem dX10_hurt_23 : decode cX10_hurt 23 = .ok (.ireturn, 1) := by decide +kernel
theorem dX10_hurt_24 : decode cX10_hurt 24 = .ok (.aload_n 0, 1) := by decide +kernel
theorem dX10_hurt_25 : decode cX10_hurt 25 = .ok (.getfield 20, 3) := by decide +kernel
theorem dX10_hurt_28 : decode cX10_hurt 28 = .ok (.getfield 98, 3) := by decide +kernel
theorem dX10_hurt_31 : decode cX10_hurt 31 = .ok (.iload_n 1, 1) := by decide +kernel
theorem dX10_hurt_32 : decode cX10_hurt 32 = .ok (.aaload, 1) := by decide +kernel
theorem dX10_hurt_33 : decode cX10_hurt 33 = .ok (.getfield 119, 3) := by decide +kernel
theorem dX10_hurt_36 : decode cX10_hurt 36 = .ok (.ifCond .ne 6, 3) := by decide +kernel
theorem dX10_hurt_39 : decode cX10_hurt 39 = .ok (.bipush (-3), 2) := by decide +kernel
theorem dX10_hurt_41 : decode cX10_hurt 41 = .ok (.ireturn, 1) := by decide +kernel
theorem dX10_hurt_42 : decode cX10_hurt 42 = .ok (.aload_n 0, 1) := by decide +kernel
theorem dX10_hurt_43 : decode cX10_hurt 43 = .ok (.getfield 31, 3) := by decide +kernel
theorem dX10_hurt_46 : decode cX10_hurt 46 = .ok (.aload_n 0, 1) := by decide +kernel
theorem dX10_hurt_47 : decode cX10_hurt 47 = .ok (.getfield 20, 3) := by decide +kernel
theorem dX10_hurt_50 : decode cX10_hurt 50 = .ok (.invokevirtual 253, 3) := by decide +kernel
theorem dX10_hurt_53 : decode cX10_hurt 53 = .ok (.aload_n 0, 1) := by decide +kernel
theorem dX10_hurt_54 : decode cX10_hurt 54 = .ok (.getfield 10, 3) := by decide +kernel
theorem dX10_hurt_57 : decode cX10_hurt 57 = .ok (.invokevirtual 257, 3) := by decide +kernel
theorem dX10_hurt_60 : decode cX10_hurt 60 = .ok (.aload_n 0, 1) := by decide +kernel
theorem dX10_hurt_61 : decode cX10_hurt 61 = .ok (.getfield 10, 3) := by decide +kernel
theorem dX10_hurt_64 : decode cX10_hurt 64 = .ok (.iload_n 1, 1) := by decide +kernel
theorem dX10_hurt_65 : decode cX10_hurt 65 = .ok (.iload_n 2, 1) := by decide +kernel
theorem dX10_hurt_66 : decode cX10_hurt 66 = .ok (.invokevirtual 260, 3) := by decide +kernel
theorem dX10_hurt_69 : decode cX10_hurt 69 = .ok (.aload_n 0, 1) := by decide +kernel
theorem dX10_hurt_70 : decode cX10_hurt 70 = .ok (.aload_n 0, 1) := by decide +kernel
theorem dX10_hurt_71 : decode cX10_hurt 71 = .ok (.getfield 10, 3) := by decide +kernel
theorem dX10_hurt_74 : decode cX10_hurt 74 = .ok (.invokevirtual 264, 3) := by decide +kernel
theorem dX10_hurt_77 : decode cX10_hurt 77 = .ok (.invokevirtual 267, 3) := by decide +kernel
theorem dX10_hurt_80 : decode cX10_hurt 80 = .ok (.ireturn, 1) := by decide +kernel
theorem dX10_aim_0 : decode cX10_aim 0 = .ok (.aload_n 0, 1) := by decide +kernel
theorem dX10_aim_1 : decode cX10_aim 1 = .ok (.getfield 20, 3) := by decide +kernel
theorem dX10_aim_4 : decode cX10_aim 4 = .ok (.iload_n 1, 1) := by decide +kernel
theorem dX10_aim_5 : decode cX10_aim 5 = .ok (.invokevirtual 94, 3) := by decide +kernel
