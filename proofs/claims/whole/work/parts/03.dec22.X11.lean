theorem dX11_rule_21 : decode cX11_rule 21 = .ok (.iload 4, 2) := by decide +kernel
theorem dX11_rule_23 : decode cX11_rule 23 = .ok (.iconst 1, 1) := by decide +kernel
theorem dX11_rule_24 : decode cX11_rule 24 = .ok (.bipush 99, 2) := by decide +kernel
theorem dX11_rule_26 : decode cX11_rule 26 = .ok (.invokestatic 84, 3) := by decide +kernel
theorem dX11_rule_29 : decode cX11_rule 29 = .ok (.ifCond .eq 19, 3) := by decide +kernel
theorem dX11_rule_32 : decode cX11_rule 32 = .ok (.iload_n 1, 1) := by decide +kernel
theorem dX11_rule_33 : decode cX11_rule 33 = .ok (.iconst 3, 1) := by decide +kernel
theorem dX11_rule_34 : decode cX11_rule 34 = .ok (.if_icmp .ne 17, 3) := by decide +kernel
theorem dX11_rule_37 : decode cX11_rule 37 = .ok (.iload 4, 2) := by decide +kernel
theorem dX11_rule_39 : decode cX11_rule 39 = .ok (.iconst 0, 1) := by decide +kernel
theorem dX11_rule_40 : decode cX11_rule 40 = .ok (.bipush 7, 2) := by decide +kernel
theorem dX11_rule_42 : decode cX11_rule 42 = .ok (.invokestatic 84, 3) := by decide +kernel
theorem dX11_rule_45 : decode cX11_rule 45 = .ok (.ifCond .ne 6, 3) := by decide +kernel
theorem dX11_rule_48 : decode cX11_rule 48 = .ok (.bipush (-2), 2) := by decide +kernel
theorem dX11_rule_50 : decode cX11_rule 50 = .ok (.ireturn, 1) := by decide +kernel
theorem dX11_rule_51 : decode cX11_rule 51 = .ok (.aload_n 0, 1) := by decide +kernel
theorem dX11_rule_52 : decode cX11_rule 52 = .ok (.getfield 7, 3) := by decide +kernel
theorem dX11_rule_55 : decode cX11_rule 55 = .ok (.sipush 240, 3) := by decide +kernel
theorem dX11_rule_58 : decode cX11_rule 58 = .ok (.iaload, 1) := by decide +kernel
theorem dX11_rule_59 : decode cX11_rule 59 = .ok (.bipush 8, 2) := by decide +kernel
theorem dX11_rule_61 : decode cX11_rule 61 = .ok (.if_icmp .ne 6, 3) := by decide +kernel
theorem dX11_rule_64 : decode cX11_rule 64 = .ok (.bipush (-4), 2) := by decide +kernel
theorem dX11_rule_66 : decode cX11_rule 66 = .ok (.ireturn, 1) := by decide +kernel
theorem dX11_rule_67 : decode cX11_rule 67 = .ok (.sipush 150, 3) := by decide +kernel
theorem dX11_rule_70 : decode cX11_rule 70 = .ok (.iconst 4, 1) := by decide +kernel
theorem dX11_rule_71 : decode cX11_rule 71 = .ok (.aload_n 0, 1) := by decide +kernel
theorem dX11_rule_72 : decode cX11_rule 72 = .ok (.getfield 7, 3) := by decide +kernel
theorem dX11_rule_75 : decode cX11_rule 75 = .ok (.sipush 240, 3) := by decide +kernel
theorem dX11_rule_78 : decode cX11_rule 78 = .ok (.iaload, 1) := by decide +kernel
theorem dX11_rule_79 : decode cX11_rule 79 = .ok (.imul, 1) := by decide +kernel
theorem dX11_rule_80 : decode cX11_rule 80 = .ok (.iadd, 1) := by decide +kernel
theorem dX11_rule_81 : decode cX11_rule 81 = .ok (.istore 5, 2) := by decide +kernel
theorem dX11_rule_83 : decode cX11_rule 83 = .ok (.aload_n 0, 1) := by decide +kernel
theorem dX11_rule_84 : decode cX11_rule 84 = .ok (.getfield 7, 3) := by decide +kernel
theorem dX11_rule_87 : decode cX11_rule 87 = .ok (.iload 5, 2) := by decide +kernel
theorem dX11_rule_89 : decode cX11_rule 89 = .ok (.iload_n 1, 1) := by decide +kernel
theorem dX11_rule_90 : decode cX11_rule 90 = .ok (.iastore, 1) := by decide +kernel
theorem dX11_rule_91 : decode cX11_rule 91 = .ok (.aload_n 0, 1) := by decide +kernel
theorem dX11_rule_92 : decode cX11_rule 92 = .ok (.getfield 7, 3) := by decide +kernel
theorem dX11_rule_95 : decode cX11_rule 95 = .ok (.iload 5, 2) := by decide +kernel
theorem dX11_rule_97 : decode cX11_rule 97 = .ok (.iconst 1, 1) := by decide +kernel
theorem dX11_rule_98 : decode cX11_rule 98 = .ok (.iadd, 1) := by decide +kernel
theorem dX11_rule_99 : decode cX11_rule 99 = .ok (.iload_n 2, 1) := by decide +kernel
theorem dX11_rule_100 : decode cX11_rule 100 = .ok (.iastore, 1) := by decide +kernel
theorem dX11_rule_101 : decode cX11_rule 101 = .ok (.aload_n 0, 1) := by decide +kernel
theorem dX11_rule_102 : decode cX11_rule 102 = .ok (.getfield 7, 3) := by decide +kernel
theorem dX11_rule_105 : decode cX11_rule 105 = .ok (.iload 5, 2) := by decide +kernel
theorem dX11_rule_107 : decode cX11_rule 107 = .ok (.iconst 2, 1) := by decide +kernel
theorem dX11_rule_108 : decode cX11_rule 108 = .ok (.iadd, 1) := by decide +kernel
theorem dX11_rule_109 : decode cX11_rule 109 = .ok (.iload_n 3, 1) := by decide +kernel
theorem dX11_rule_110 : decode cX11_rule 110 = .ok (.iastore, 1) := by decide +kernel
theorem dX11_rule_111 : decode cX11_rule 111 = .ok (.aload_n 0, 1) := by decide +kernel
theorem dX11_rule_112 : decode cX11_rule 112 = .ok (.getfield 7, 3) := by decide +kernel
theorem dX11_rule_115 : decode cX11_rule 115 = .ok (.iload 5, 2) := by decide +kernel
theorem dX11_rule_117 : decode cX11_rule 117 = .ok (.iconst 3, 1) := by decide +kernel
theorem dX11_rule_118 : decode cX11_rule 118 = .ok (.iadd, 1) := by decide +kernel
theorem dX11_rule_119 : decode cX11_rule 119 = .ok (.iload 4, 2) := by decide +kernel
theorem dX11_rule_121 : decode cX11_rule 121 = .ok (.iastore, 1) := by decide +kernel
theorem dX11_rule_122 : decode cX11_rule 122 = .ok (.aload_n 0, 1) := by decide +kernel
theorem dX11_rule_123 : decode cX11_rule 123 = .ok (.getfield 7, 3) := by decide +kernel
theorem dX11_rule_126 : decode cX11_rule 126 = .ok (.sipush 240, 3) := by decide +kernel
theorem dX11_rule_129 : decode cX11_rule 129 = .ok (.dup2, 1) := by decide +kernel
theorem dX11_rule_130 : decode cX11_rule 130 = .ok (.iaload, 1) := by decide +kernel
theorem dX11_rule_131 : decode cX11_rule 131 = .ok (.iconst 1, 1) := by decide +kernel
theorem dX11_rule_132 : decode cX11_rule 132 = .ok (.iadd, 1) := by decide +kernel
theorem dX11_rule_133 : decode cX11_rule 133 = .ok (.iastore, 1) := by decide +kernel
theorem dX11_rule_134 : decode cX11_rule 134 = .ok (.aload_n 0, 1) := by decide +kernel
theorem dX11_rule_135 : decode cX11_rule 135 = .ok (.getfield 7, 3) := by decide +kernel
theorem dX11_rule_138 : decode cX11_rule 138 = .ok (.sipush 240, 3) := by decide +kernel
theorem dX11_rule_141 : decode cX11_rule 141 = .ok (.iaload, 1) := by decide +kernel
theorem dX11_rule_142 : decode cX11_rule 142 = .ok (.iconst 1, 1) := by decide +kernel
theorem dX11_rule_143 : decode cX11_rule 143 = .ok (.isub, 1) := by decide +kernel
theorem dX11_rule_144 : decode cX11_rule 144 = .ok (.ireturn, 1) := by decide +kernel
theorem dX11_ruleOf_0 : decode cX11_ruleOf 0 = .ok (.aload_n 0, 1) := by decide +kernel
theorem dX11_ruleOf_1 : decode cX11_ruleOf 1 = .ok (.iload_n 1, 1) := by decide +kernel
theorem dX11_ruleOf_2 : decode cX11_ruleOf 2 = .ok (.invokevirtual 189, 3) := by decide +kernel
theorem dX11_ruleOf_5 : decode cX11_ruleOf 5 = .ok (.ifCond .eq 23, 3) := by decide +kernel
theorem dX11_ruleOf_8 : decode cX11_ruleOf 8 = .ok (.iload_n 2, 1) := by decide +kernel
theorem dX11_ruleOf_9 : decode cX11_ruleOf 9 = .ok (.iconst 0, 1) := by decide +kernel
theorem dX11_ruleOf_10 : decode cX11_ruleOf 10 = .ok (.iconst 1, 1) := by decide +kernel
theorem dX11_ruleOf_11 : decode cX11_ruleOf 11 = .ok (.invokestatic 84, 3) := by decide +kernel
theorem dX11_ruleOf_14 : decode cX11_ruleOf 14 = .ok (.ifCond .eq 14, 3) := by decide +kernel
theorem dX11_ruleOf_17 : decode cX11_ruleOf 17 = .ok (.aload_n 0, 1) := by decide +kernel
theorem dX11_ruleOf_18 : decode cX11_ruleOf 18 = .ok (.iload_n 1, 1) := by decide +kernel
theorem dX11_ruleOf_19 : decode cX11_ruleOf 19 = .ok (.iconst 3, 1) := by decide +kernel
theorem dX11_ruleOf_20 : decode cX11_ruleOf 20 = .ok (.iload_n 2, 1) := by decide +kernel
theorem dX11_ruleOf_21 : decode cX11_ruleOf 21 = .ok (.imul, 1) := by decide +kernel
theorem dX11_ruleOf_22 : decode cX11_ruleOf 22 = .ok (.invokevirtual 192, 3) := by decide +kernel
theorem dX11_ruleOf_25 : decode cX11_ruleOf 25 = .ok (.goto 5, 3) := by decide +kernel
theorem dX11_ruleOf_28 : decode cX11_ruleOf 28 = .ok (.bipush (-2), 2) := by decide +kernel
theorem dX11_ruleOf_30 : decode cX11_ruleOf 30 = .ok (.ireturn, 1) := by decide +kernel
theorem dX11_unrule_0 : decode cX11_unrule 0 = .ok (.aload_n 0, 1) := by decide +kernel
theorem dX11_unrule_1 : decode cX11_unrule 1 = .ok (.iload_n 1, 1) := by decide +kernel
theorem dX11_unrule_2 : decode cX11_unrule 2 = .ok (.invokevirtual 189, 3) := by decide +kernel
theorem dX11_unrule_5 : decode cX11_unrule 5 = .ok (.ifCond .ne 6, 3) := by decide +kernel
theorem dX11_unrule_8 : decode cX11_unrule 8 = .ok (.bipush (-2), 2) := by decide +kernel
theorem dX11_unrule_10 : decode cX11_unrule 10 = .ok (.ireturn, 1) := by decide +kernel
theorem dX11_unrule_11 : decode cX11_unrule 11 = .ok (.aload_n 0, 1) := by decide +kernel
theorem dX11_unrule_12 : decode cX11_unrule 12 = .ok (.sipush 150, 3) := by decide +kernel
theorem dX11_unrule_15 : decode cX11_unrule 15 = .ok (.iconst 4, 1) := by decide +kernel
theorem dX11_unrule_16 : decode cX11_unrule 16 = .ok (.sipush 240, 3) := by decide +kernel
theorem dX11_unrule_19 : decode cX11_unrule 19 = .ok (.iload_n 1, 1) := by decide +kernel
theorem dX11_unrule_20 : decode cX11_unrule 20 = .ok (.invokevirtual 186, 3) := by decide +kernel
theorem dX11_unrule_23 : decode cX11_unrule 23 = .ok (.aload_n 0, 1) := by decide +kernel
theorem dX11_unrule_24 : decode cX11_unrule 24 = .ok (.getfield 7, 3) := by decide +kernel
theorem dX11_unrule_27 : decode cX11_unrule 27 = .ok (.sipush 240, 3) := by decide +kernel
theorem dX11_unrule_30 : decode cX11_unrule 30 = .ok (.iaload, 1) := by decide +kernel
theorem dX11_unrule_31 : decode cX11_unrule 31 = .ok (.ireturn, 1) := by decide +kernel
theorem dX11_choice_0 : decode cX11_choice 0 = .ok (.iload_n 1, 1) := by decide +kernel
theorem dX11_choice_1 : decode cX11_choice 1 = .ok (.iconst 0, 1) := by decide +kernel
theorem dX11_choice_2 : decode cX11_choice 2 = .ok (.iconst 1, 1) := by decide +kernel
theorem dX11_choice_3 : decode cX11_choice 3 = .ok (.invokestatic 84, 3) := by decide +kernel
theorem dX11_choice_6 : decode cX11_choice 6 = .ok (.ifCond .eq 12, 3) := by decide +kernel
theorem dX11_choice_9 : decode cX11_choice 9 = .ok (.iload_n 2, 1) := by decide +kernel
theorem dX11_choice_10 : decode cX11_choice 10 = .ok (.iconst 0, 1) := by decide +kernel
theorem dX11_choice_11 : decode cX11_choice 11 = .ok (.iconst 1, 1) := by decide +kernel
theorem dX11_choice_12 : decode cX11_choice 12 = .ok (.invokestatic 84, 3) := by decide +kernel
theorem dX11_choice_15 : decode cX11_choice 15 = .ok (.ifCond .ne 6, 3) := by decide +kernel
theorem dX11_choice_18 : decode cX11_choice 18 = .ok (.bipush (-2), 2) := by decide +kernel
theorem dX11_choice_20 : decode cX11_choice 20 = .ok (.ireturn, 1) := by decide +kernel
theorem dX11_choice_21 : decode cX11_choice 21 = .ok (.aload_n 0, 1) := by decide +kernel
theorem dX11_choice_22 : decode cX11_choice 22 = .ok (.getfield 7, 3) := by decide +kernel
theorem dX11_choice_25 : decode cX11_choice 25 = .ok (.sipush 242, 3) := by decide +kernel
theorem dX11_choice_28 : decode cX11_choice 28 = .ok (.iload_n 1, 1) := by decide +kernel
theorem dX11_choice_29 : decode cX11_choice 29 = .ok (.iadd, 1) := by decide +kernel
theorem dX11_choice_30 : decode cX11_choice 30 = .ok (.iaload, 1) := by decide +kernel
theorem dX11_choice_31 : decode cX11_choice 31 = .ok (.istore_n 3, 1) := by decide +kernel
theorem dX11_choice_32 : decode cX11_choice 32 = .ok (.aload_n 0, 1) := by decide +kernel
theorem dX11_choice_33 : decode cX11_choice 33 = .ok (.getfield 7, 3) := by decide +kernel
theorem dX11_choice_36 : decode cX11_choice 36 = .ok (.sipush 242, 3) := by decide +kernel
theorem dX11_choice_39 : decode cX11_choice 39 = .ok (.iload_n 1, 1) := by decide +kernel
theorem dX11_choice_40 : decode cX11_choice 40 = .ok (.iadd, 1) := by decide +kernel
theorem dX11_choice_41 : decode cX11_choice 41 = .ok (.iload_n 2, 1) := by decide +kernel
theorem dX11_choice_42 : decode cX11_choice 42 = .ok (.iastore, 1) := by decide +kernel
theorem dX11_choice_43 : decode cX11_choice 43 = .ok (.iload_n 3, 1) := by decide +kernel
theorem dX11_choice_44 : decode cX11_choice 44 = .ok (.ireturn, 1) := by decide +kernel
theorem dX11_isWatcher_0 : decode cX11_isWatcher 0 = .ok (.iload_n 1, 1) := by decide +kernel
theorem dX11_isWatcher_1 : decode cX11_isWatcher 1 = .ok (.iconst 0, 1) := by decide +kernel
theorem dX11_isWatcher_2 : decode cX11_isWatcher 2 = .ok (.aload_n 0, 1) := by decide +kernel
theorem dX11_isWatcher_3 : decode cX11_isWatcher 3 = .ok (.getfield 7, 3) := by decide +kernel
theorem dX11_isWatcher_6 : decode cX11_isWatcher 6 = .ok (.sipush 241, 3) := by decide +kernel
theorem dX11_isWatcher_9 : decode cX11_isWatcher 9 = .ok (.iaload, 1) := by decide +kernel
theorem dX11_isWatcher_10 : decode cX11_isWatcher 10 = .ok (.iconst 1, 1) := by decide +kernel
theorem dX11_isWatcher_11 : decode cX11_isWatcher 11 = .ok (.isub, 1) := by decide +kernel
theorem dX11_isWatcher_12 : decode cX11_isWatcher 12 = .ok (.invokestatic 84, 3) := by decide +kernel
theorem dX11_isWatcher_15 : decode cX11_isWatcher 15 = .ok (.ireturn, 1) := by decide +kernel
theorem dX11_watch_0 : decode cX11_watch 0 = .ok (.iload_n 1, 1) := by decide +kernel
theorem dX11_watch_1 : decode cX11_watch 1 = .ok (.iconst 0, 1) := by decide +kernel
theorem dX11_watch_2 : decode cX11_watch 2 = .ok (.iconst 1, 1) := by decide +kernel
theorem dX11_watch_3 : decode cX11_watch 3 = .ok (.invokestatic 84, 3) := by decide +kernel
theorem dX11_watch_6 : decode cX11_watch 6 = .ok (.ifCond .eq 43, 3) := by decide +kernel
theorem dX11_watch_9 : decode cX11_watch 9 = .ok (.iload_n 2, 1) := by decide +kernel
theorem dX11_watch_10 : decode cX11_watch 10 = .ok (.iconst 0, 1) := by decide +kernel
theorem dX11_watch_11 : decode cX11_watch 11 = .ok (.iconst 2, 1) := by decide +kernel
theorem dX11_watch_12 : decode cX11_watch 12 = .ok (.invokestatic 84, 3) := by decide +kernel
theorem dX11_watch_15 : decode cX11_watch 15 = .ok (.ifCond .eq 34, 3) := by decide +kernel
theorem dX11_watch_18 : decode cX11_watch 18 = .ok (.iload_n 3, 1) := by decide +kernel
theorem dX11_watch_19 : decode cX11_watch 19 = .ok (.iconst 0, 1) := by decide +kernel
theorem dX11_watch_20 : decode cX11_watch 20 = .ok (.iconst 2, 1) := by decide +kernel
theorem dX11_watch_21 : decode cX11_watch 21 = .ok (.invokestatic 84, 3) := by decide +kernel
theorem dX11_watch_24 : decode cX11_watch 24 = .ok (.ifCond .eq 25, 3) := by decide +kernel
theorem dX11_watch_27 : decode cX11_watch 27 = .ok (.iload 4, 2) := by decide +kernel
theorem dX11_watch_29 : decode cX11_watch 29 = .ok (.iconst (-1), 1) := by decide +kernel
theorem dX11_watch_30 : decode cX11_watch 30 = .ok (.bipush 7, 2) := by decide +kernel
theorem dX11_watch_32 : decode cX11_watch 32 = .ok (.invokestatic 84, 3) := by decide +kernel
theorem dX11_watch_35 : decode cX11_watch 35 = .ok (.ifCond .eq 14, 3) := by decide +kernel
theorem dX11_watch_38 : decode cX11_watch 38 = .ok (.iload 5, 2) := by decide +kernel
theorem dX11_watch_40 : decode cX11_watch 40 = .ok (.iconst 0, 1) := by decide +kernel
theorem dX11_watch_41 : decode cX11_watch 41 = .ok (.bipush 9, 2) := by decide +kernel
theorem dX11_watch_43 : decode cX11_watch 43 = .ok (.invokestatic 84, 3) := by decide +kernel
theorem dX11_watch_46 : decode cX11_watch 46 = .ok (.ifCond .ne 6, 3) := by decide +kernel
theorem dX11_watch_49 : decode cX11_watch 49 = .ok (.bipush (-2), 2) := by decide +kernel
theorem dX11_watch_51 : decode cX11_watch 51 = .ok (.ireturn, 1) := by decide +kernel
theorem dX11_watch_52 : decode cX11_watch 52 = .ok (.aload_n 0, 1) := by decide +kernel
theorem dX11_watch_53 : decode cX11_watch 53 = .ok (.getfield 7, 3) := by decide +kernel
theorem dX11_watch_56 : decode cX11_watch 56 = .ok (.sipush 241, 3) := by decide +kernel
theorem dX11_watch_59 : decode cX11_watch 59 = .ok (.iaload, 1) := by decide +kernel
theorem dX11_watch_60 : decode cX11_watch 60 = .ok (.bipush 8, 2) := by decide +kernel
theorem dX11_watch_62 : decode cX11_watch 62 = .ok (.if_icmp .ne 6, 3) := by decide +kernel
theorem dX11_watch_65 : decode cX11_watch 65 = .ok (.bipush (-4), 2) := by decide +kernel
theorem dX11_watch_67 : decode cX11_watch 67 = .ok (.ireturn, 1) := by decide +kernel
theorem dX11_watch_68 : decode cX11_watch 68 = .ok (.sipush 182, 3) := by decide +kernel
theorem dX11_watch_71 : decode cX11_watch 71 = .ok (.bipush 7, 2) := by decide +kernel
theorem dX11_watch_73 : decode cX11_watch 73 = .ok (.aload_n 0, 1) := by decide +kernel
theorem dX11_watch_74 : decode cX11_watch 74 = .ok (.getfield 7, 3) := by decide +kernel
theorem dX11_watch_77 : decode cX11_watch 77 = .ok (.sipush 241, 3) := by decide +kernel
theorem dX11_watch_80 : decode cX11_watch 80 = .ok (.iaload, 1) := by decide +kernel
theorem dX11_watch_81 : decode cX11_watch 81 = .ok (.imul, 1) := by decide +kernel
theorem dX11_watch_82 : decode cX11_watch 82 = .ok (.iadd, 1) := by decide +kernel
theorem dX11_watch_83 : decode cX11_watch 83 = .ok (.istore 6, 2) := by decide +kernel
theorem dX11_watch_85 : decode cX11_watch 85 = .ok (.aload_n 0, 1) := by decide +kernel
theorem dX11_watch_86 : decode cX11_watch 86 = .ok (.getfield 7, 3) := by decide +kernel
theorem dX11_watch_89 : decode cX11_watch 89 = .ok (.iload 6, 2) := by decide +kernel
theorem dX11_watch_91 : decode cX11_watch 91 = .ok (.iload_n 1, 1) := by decide +kernel
theorem dX11_watch_92 : decode cX11_watch 92 = .ok (.iastore, 1) := by decide +kernel
theorem dX11_watch_93 : decode cX11_watch 93 = .ok (.aload_n 0, 1) := by decide +kernel
theorem dX11_watch_94 : decode cX11_watch 94 = .ok (.getfield 7, 3) := by decide +kernel
theorem dX11_watch_97 : decode cX11_watch 97 = .ok (.iload 6, 2) := by decide +kernel
theorem dX11_watch_99 : decode cX11_watch 99 = .ok (.iconst 1, 1) := by decide +kernel
theorem dX11_watch_100 : decode cX11_watch 100 = .ok (.iadd, 1) := by decide +kernel
theorem dX11_watch_101 : decode cX11_watch 101 = .ok (.iload_n 2, 1) := by decide +kernel
theorem dX11_watch_102 : decode cX11_watch 102 = .ok (.iastore, 1) := by decide +kernel
theorem dX11_watch_103 : decode cX11_watch 103 = .ok (.aload_n 0, 1) := by decide +kernel
theorem dX11_watch_104 : decode cX11_watch 104 = .ok (.getfield 7, 3) := by decide +kernel
theorem dX11_watch_107 : decode cX11_watch 107 = .ok (.iload 6, 2) := by decide +kernel
theorem dX11_watch_109 : decode cX11_watch 109 = .ok (.iconst 2, 1) := by decide +kernel
theorem dX11_watch_110 : decode cX11_watch 110 = .ok (.iadd, 1) := by decide +kernel
theorem dX11_watch_111 : decode cX11_watch 111 = .ok (.iload_n 3, 1) := by decide +kernel
theorem dX11_watch_112 : decode cX11_watch 112 = .ok (.iastore, 1) := by decide +kernel
theorem dX11_watch_113 : decode cX11_watch 113 = .ok (.aload_n 0, 1) := by decide +kernel
theorem dX11_watch_114 : decode cX11_watch 114 = .ok (.getfield 7, 3) := by decide +kernel
theorem dX11_watch_117 : decode cX11_watch 117 = .ok (.iload 6, 2) := by decide +kernel
theorem dX11_watch_119 : decode cX11_watch 119 = .ok (.iconst 3, 1) := by decide +kernel
theorem dX11_watch_120 : decode cX11_watch 120 = .ok (.iadd, 1) := by decide +kernel
theorem dX11_watch_121 : decode cX11_watch 121 = .ok (.iload 4, 2) := by decide +kernel
theorem dX11_watch_123 : decode cX11_watch 123 = .ok (.iastore, 1) := by decide +kernel
theorem dX11_watch_124 : decode cX11_watch 124 = .ok (.aload_n 0, 1) := by decide +kernel
theorem dX11_watch_125 : decode cX11_watch 125 = .ok (.getfield 7, 3) := by decide +kernel
theorem dX11_watch_128 : decode cX11_watch 128 = .ok (.iload 6, 2) := by decide +kernel
theorem dX11_watch_130 : decode cX11_watch 130 = .ok (.iconst 4, 1) := by decide +kernel
theorem dX11_watch_131 : decode cX11_watch 131 = .ok (.iadd, 1) := by decide +kernel
theorem dX11_watch_132 : decode cX11_watch 132 = .ok (.iload 5, 2) := by decide +kernel
theorem dX11_watch_134 : decode cX11_watch 134 = .ok (.iastore, 1) := by decide +kernel
theorem dX11_watch_135 : decode cX11_watch 135 = .ok (.aload_n 0, 1) := by decide +kernel
theorem dX11_watch_136 : decode cX11_watch 136 = .ok (.getfield 7, 3) := by decide +kernel
theorem dX11_watch_139 : decode cX11_watch 139 = .ok (.iload 6, 2) := by decide +kernel
theorem dX11_watch_141 : decode cX11_watch 141 = .ok (.iconst 5, 1) := by decide +kernel
theorem dX11_watch_142 : decode cX11_watch 142 = .ok (.iadd, 1) := by decide +kernel
theorem dX11_watch_143 : decode cX11_watch 143 = .ok (.iconst 0, 1) := by decide +kernel
theorem dX11_watch_144 : decode cX11_watch 144 = .ok (.iastore, 1) := by decide +kernel
theorem dX11_watch_145 : decode cX11_watch 145 = .ok (.aload_n 0, 1) := by decide +kernel
theorem dX11_watch_146 : decode cX11_watch 146 = .ok (.getfield 7, 3) := by decide +kernel
theorem dX11_watch_149 : decode cX11_watch 149 = .ok (.iload 6, 2) := by decide +kernel
theorem dX11_watch_151 : decode cX11_watch 151 = .ok (.bipush 6, 2) := by decide +kernel
theorem dX11_watch_153 : decode cX11_watch 153 = .ok (.iadd, 1) := by decide +kernel
theorem dX11_watch_154 : decode cX11_watch 154 = .ok (.iconst 0, 1) := by decide +kernel
theorem dX11_watch_155 : decode cX11_watch 155 = .ok (.iastore, 1) := by decide +kernel
theorem dX11_watch_156 : decode cX11_watch 156 = .ok (.aload_n 0, 1) := by decide +kernel
theorem dX11_watch_157 : decode cX11_watch 157 = .ok (.getfield 7, 3) := by decide +kernel
theorem dX11_watch_160 : decode cX11_watch 160 = .ok (.sipush 241, 3) := by decide +kernel
theorem dX11_watch_163 : decode cX11_watch 163 = .ok (.dup2, 1) := by decide +kernel
theorem dX11_watch_164 : decode cX11_watch 164 = .ok (.iaload, 1) := by decide +kernel
theorem dX11_watch_165 : decode cX11_watch 165 = .ok (.iconst 1, 1) := by decide +kernel
theorem dX11_watch_166 : decode cX11_watch 166 = .ok (.iadd, 1) := by decide +kernel
theorem dX11_watch_167 : decode cX11_watch 167 = .ok (.iastore, 1) := by decide +kernel
theorem dX11_watch_168 : decode cX11_watch 168 = .ok (.aload_n 0, 1) := by decide +kernel
theorem dX11_watch_169 : decode cX11_watch 169 = .ok (.getfield 7, 3) := by decide +kernel
theorem dX11_watch_172 : decode cX11_watch 172 = .ok (.sipush 241, 3) := by decide +kernel
theorem dX11_watch_175 : decode cX11_watch 175 = .ok (.iaload, 1) := by decide +kernel
theorem dX11_watch_176 : decode cX11_watch 176 = .ok (.iconst 1, 1) := by decide +kernel
theorem dX11_watch_177 : decode cX11_watch 177 = .ok (.isub, 1) := by decide +kernel
theorem dX11_watch_178 : decode cX11_watch 178 = .ok (.ireturn, 1) := by decide +kernel
theorem dX11_watches_0 : decode cX11_watches 0 = .ok (.aload_n 0, 1) := by decide +kernel
theorem dX11_watches_1 : decode cX11_watches 1 = .ok (.iload_n 1, 1) := by decide +kernel
theorem dX11_watches_2 : decode cX11_watches 2 = .ok (.invokevirtual 195, 3) := by decide +kernel
theorem dX11_watches_5 : decode cX11_watches 5 = .ok (.ifCond .eq 11, 3) := by decide +kernel
theorem dX11_watches_8 : decode cX11_watches 8 = .ok (.iload_n 2, 1) := by decide +kernel
theorem dX11_watches_9 : decode cX11_watches 9 = .ok (.iload_n 3, 1) := by decide +kernel
theorem dX11_watches_10 : decode cX11_watches 10 = .ok (.invokestatic 173, 3) := by decide +kernel
theorem dX11_watches_13 : decode cX11_watches 13 = .ok (.ifCond .ne 6, 3) := by decide +kernel
theorem dX11_watches_16 : decode cX11_watches 16 = .ok (.bipush (-2), 2) := by decide +kernel
theorem dX11_watches_18 : decode cX11_watches 18 = .ok (.ireturn, 1) := by decide +kernel
theorem dX11_watches_19 : decode cX11_watches 19 = .ok (.aload_n 0, 1) := by decide +kernel
theorem dX11_watches_20 : decode cX11_watches 20 = .ok (.iload_n 1, 1) := by decide +kernel
theorem dX11_watches_21 : decode cX11_watches 21 = .ok (.iconst 5, 1) := by decide +kernel
theorem dX11_watches_22 : decode cX11_watches 22 = .ok (.invokevirtual 139, 3) := by decide +kernel
theorem dX11_watches_25 : decode cX11_watches 25 = .ok (.istore 4, 2) := by decide +kernel
theorem dX11_watches_27 : decode cX11_watches 27 = .ok (.aload_n 0, 1) := by decide +kernel
theorem dX11_watches_28 : decode cX11_watches 28 = .ok (.getfield 7, 3) := by decide +kernel
theorem dX11_watches_31 : decode cX11_watches 31 = .ok (.sipush 182, 3) := by decide +kernel
theorem dX11_watches_34 : decode cX11_watches 34 = .ok (.bipush 7, 2) := by decide +kernel
theorem dX11_watches_36 : decode cX11_watches 36 = .ok (.iload_n 1, 1) := by decide +kernel
theorem dX11_watches_37 : decode cX11_watches 37 = .ok (.imul, 1) := by decide +kernel
theorem dX11_watches_38 : decode cX11_watches 38 = .ok (.iadd, 1) := by decide +kernel
theorem dX11_watches_39 : decode cX11_watches 39 = .ok (.iconst 5, 1) := by decide +kernel
theorem dX11_watches_40 : decode cX11_watches 40 = .ok (.iadd, 1) := by decide +kernel
theorem dX11_watches_41 : decode cX11_watches 41 = .ok (.iload_n 2, 1) := by decide +kernel
theorem dX11_watches_42 : decode cX11_watches 42 = .ok (.iastore, 1) := by decide +kernel
theorem dX11_watches_43 : decode cX11_watches 43 = .ok (.aload_n 0, 1) := by decide +kernel
theorem dX11_watches_44 : decode cX11_watches 44 = .ok (.getfield 7, 3) := by decide +kernel
theorem dX11_watches_47 : decode cX11_watches 47 = .ok (.sipush 182, 3) := by decide +kernel
theorem dX11_watches_50 : decode cX11_watches 50 = .ok (.bipush 7, 2) := by decide +kernel
theorem dX11_watches_52 : decode cX11_watches 52 = .ok (.iload_n 1, 1) := by decide +kernel
theorem dX11_watches_53 : decode cX11_watches 53 = .ok (.imul, 1) := by decide +kernel
theorem dX11_watches_54 : decode cX11_watches 54 = .ok (.iadd, 1) := by decide +kernel
theorem dX11_watches_55 : decode cX11_watches 55 = .ok (.bipush 6, 2) := by decide +kernel
theorem dX11_watches_57 : decode cX11_watches 57 = .ok (.iadd, 1) := by decide +kernel
theorem dX11_watches_58 : decode cX11_watches 58 = .ok (.iload_n 3, 1) := by decide +kernel
theorem dX11_watches_59 : decode cX11_watches 59 = .ok (.iastore, 1) := by decide +kernel
theorem dX11_watches_60 : decode cX11_watches 60 = .ok (.iload 4, 2) := by decide +kernel
theorem dX11_watches_62 : decode cX11_watches 62 = .ok (.ireturn, 1) := by decide +kernel
theorem dX11_unwatch_0 : decode cX11_unwatch 0 = .ok (.aload_n 0, 1) := by decide +kernel
theorem dX11_unwatch_1 : decode cX11_unwatch 1 = .ok (.iload_n 1, 1) := by decide +kernel
theorem dX11_unwatch_2 : decode cX11_unwatch 2 = .ok (.invokevirtual 195, 3) := by decide +kernel
theorem dX11_unwatch_5 : decode cX11_unwatch 5 = .ok (.ifCond .ne 6, 3) := by decide +kernel
theorem dX11_unwatch_8 : decode cX11_unwatch 8 = .ok (.bipush (-2), 2) := by decide +kernel
theorem dX11_unwatch_10 : decode cX11_unwatch 10 = .ok (.ireturn, 1) := by decide +kernel
theorem dX11_unwatch_11 : decode cX11_unwatch 11 = .ok (.aload_n 0, 1) := by decide +kernel
theorem dX11_unwatch_12 : decode cX11_unwatch 12 = .ok (.sipush 182, 3) := by decide +kernel
theorem dX11_unwatch_15 : decode cX11_unwatch 15 = .ok (.bipush 7, 2) := by decide +kernel
theorem dX11_unwatch_17 : decode cX11_unwatch 17 = .ok (.sipush 241, 3) := by decide +kernel
theorem dX11_unwatch_20 : decode cX11_unwatch 20 = .ok (.iload_n 1, 1) := by decide +kernel
theorem dX11_unwatch_21 : decode cX11_unwatch 21 = .ok (.invokevirtual 186, 3) := by decide +kernel
theorem dX11_unwatch_24 : decode cX11_unwatch 24 = .ok (.aload_n 0, 1) := by decide +kernel
theorem dX11_unwatch_25 : decode cX11_unwatch 25 = .ok (.getfield 7, 3) := by decide +kernel
theorem dX11_unwatch_28 : decode cX11_unwatch 28 = .ok (.sipush 241, 3) := by decide +kernel
theorem dX11_unwatch_31 : decode cX11_unwatch 31 = .ok (.iaload, 1) := by decide +kernel
theorem dX11_unwatch_32 : decode cX11_unwatch 32 = .ok (.ireturn, 1) := by decide +kernel
theorem dX11_ruleFor_0 : decode cX11_ruleFor 0 = .ok (.iconst (-1), 1) := by decide +kernel
theorem dX11_ruleFor_1 : decode cX11_ruleFor 1 = .ok (.istore_n 1, 1) := by decide +kernel
theorem dX11_ruleFor_2 : decode cX11_ruleFor 2 = .ok (.iconst 0, 1) := by decide +kernel
theorem dX11_ruleFor_3 : decode cX11_ruleFor 3 = .ok (.istore_n 2, 1) := by decide +kernel
theorem dX11_ruleFor_4 : decode cX11_ruleFor 4 = .ok (.iload_n 2, 1) := by decide +kernel
theorem dX11_ruleFor_5 : decode cX11_ruleFor 5 = .ok (.aload_n 0, 1) := by decide +kernel
theorem dX11_ruleFor_6 : decode cX11_ruleFor 6 = .ok (.getfield 7, 3) := by decide +kernel
theorem dX11_ruleFor_9 : decode cX11_ruleFor 9 = .ok (.sipush 240, 3) := by decide +kernel
theorem dX11_ruleFor_12 : decode cX11_ruleFor 12 = .ok (.iaload, 1) := by decide +kernel
theorem dX11_ruleFor_13 : decode cX11_ruleFor 13 = .ok (.if_icmp .ge 135, 3) := by decide +kernel
theorem dX11_ruleFor_16 : decode cX11_ruleFor 16 = .ok (.aload_n 0, 1) := by decide +kernel
theorem dX11_ruleFor_17 : decode cX11_ruleFor 17 = .ok (.getfield 198, 3) := by decide +kernel
theorem dX11_ruleFor_20 : decode cX11_ruleFor 20 = .ok (.iload_n 2, 1) := by decide +kernel
theorem dX11_ruleFor_21 : decode cX11_ruleFor 21 = .ok (.invokestatic 96, 3) := by decide +kernel
theorem dX11_ruleFor_24 : decode cX11_ruleFor 24 = .ok (.ifCond .ne 37, 3) := by decide +kernel
theorem dX11_ruleFor_27 : decode cX11_ruleFor 27 = .ok (.aload_n 0, 1) := by decide +kernel
theorem dX11_ruleFor_28 : decode cX11_ruleFor 28 = .ok (.aload_n 0, 1) := by decide +kernel
theorem dX11_ruleFor_29 : decode cX11_ruleFor 29 = .ok (.getfield 19, 3) := by decide +kernel
theorem dX11_ruleFor_32 : decode cX11_ruleFor 32 = .ok (.aload_n 0, 1) := by decide +kernel
theorem dX11_ruleFor_33 : decode cX11_ruleFor 33 = .ok (.iload_n 2, 1) := by decide +kernel
theorem dX11_ruleFor_34 : decode cX11_ruleFor 34 = .ok (.iconst 1, 1) := by decide +kernel
theorem dX11_ruleFor_35 : decode cX11_ruleFor 35 = .ok (.invokevirtual 192, 3) := by decide +kernel
theorem dX11_ruleFor_38 : decode cX11_ruleFor 38 = .ok (.aload_n 0, 1) := by decide +kernel
theorem dX11_ruleFor_39 : decode cX11_ruleFor 39 = .ok (.iload_n 2, 1) := by decide +kernel
theorem dX11_ruleFor_40 : decode cX11_ruleFor 40 = .ok (.iconst 2, 1) := by decide +kernel
theorem dX11_ruleFor_41 : decode cX11_ruleFor 41 = .ok (.invokevirtual 192, 3) := by decide +kernel
theorem dX11_ruleFor_44 : decode cX11_ruleFor 44 = .ok (.invokevirtual 106, 3) := by decide +kernel
theorem dX11_ruleFor_47 : decode cX11_ruleFor 47 = .ok (.aload_n 0, 1) := by decide +kernel
theorem dX11_ruleFor_48 : decode cX11_ruleFor 48 = .ok (.getfield 201, 3) := by decide +kernel
theorem dX11_ruleFor_51 : decode cX11_ruleFor 51 = .ok (.invokestatic 96, 3) := by decide +kernel
theorem dX11_ruleFor_54 : decode cX11_ruleFor 54 = .ok (.ifCond .eq 7, 3) := by decide +kernel
theorem dX11_ruleFor_57 : decode cX11_ruleFor 57 = .ok (.iconst 1, 1) := by decide +kernel
theorem dX11_ruleFor_58 : decode cX11_ruleFor 58 = .ok (.goto 4, 3) := by decide +kernel
theorem dX11_ruleFor_61 : decode cX11_ruleFor 61 = .ok (.iconst 0, 1) := by decide +kernel
theorem dX11_ruleFor_62 : decode cX11_ruleFor 62 = .ok (.istore_n 3, 1) := by decide +kernel
theorem dX11_ruleFor_63 : decode cX11_ruleFor 63 = .ok (.iload_n 3, 1) := by decide +kernel
theorem dX11_ruleFor_64 : decode cX11_ruleFor 64 = .ok (.ifCond .eq 43, 3) := by decide +kernel
theorem dX11_ruleFor_67 : decode cX11_ruleFor 67 = .ok (.aload_n 0, 1) := by decide +kernel
theorem dX11_ruleFor_68 : decode cX11_ruleFor 68 = .ok (.iload_n 2, 1) := by decide +kernel
theorem dX11_ruleFor_69 : decode cX11_ruleFor 69 = .ok (.iconst 0, 1) := by decide +kernel
theorem dX11_ruleFor_70 : decode cX11_ruleFor 70 = .ok (.invokevirtual 192, 3) := by decide +kernel
theorem dX11_ruleFor_73 : decode cX11_ruleFor 73 = .ok (.iconst 3, 1) := by decide +kernel
theorem dX11_ruleFor_74 : decode cX11_ruleFor 74 = .ok (.if_icmp .ne 29, 3) := by decide +kernel
theorem dX11_ruleFor_77 : decode cX11_ruleFor 77 = .ok (.aload_n 0, 1) := by decide +kernel
theorem dX11_ruleFor_78 : decode cX11_ruleFor 78 = .ok (.iload_n 2, 1) := by decide +kernel
theorem dX11_ruleFor_79 : decode cX11_ruleFor 79 = .ok (.iconst 3, 1) := by decide +kernel
theorem dX11_ruleFor_80 : decode cX11_ruleFor 80 = .ok (.invokevirtual 192, 3) := by decide +kernel
theorem dX11_ruleFor_83 : decode cX11_ruleFor 83 = .ok (.aload_n 0, 1) := by decide +kernel
theorem dX11_ruleFor_84 : decode cX11_ruleFor 84 = .ok (.getfield 201, 3) := by decide +kernel
theorem dX11_ruleFor_87 : decode cX11_ruleFor 87 = .ok (.if_icmp .eq 20, 3) := by decide +kernel
theorem dX11_ruleFor_90 : decode cX11_ruleFor 90 = .ok (.aload_n 0, 1) := by decide +kernel
theorem dX11_ruleFor_91 : decode cX11_ruleFor 91 = .ok (.aload_n 0, 1) := by decide +kernel
theorem dX11_ruleFor_92 : decode cX11_ruleFor 92 = .ok (.iload_n 2, 1) := by decide +kernel
theorem dX11_ruleFor_93 : decode cX11_ruleFor 93 = .ok (.iconst 3, 1) := by decide +kernel
theorem dX11_ruleFor_94 : decode cX11_ruleFor 94 = .ok (.invokevirtual 192, 3) := by decide +kernel
theorem dX11_ruleFor_97 : decode cX11_ruleFor 97 = .ok (.invokevirtual 100, 3) := by decide +kernel
theorem dX11_ruleFor_100 : decode cX11_ruleFor 100 = .ok (.ifCond .eq 7, 3) := by decide +kernel
theorem dX11_ruleFor_103 : decode cX11_ruleFor 103 = .ok (.iconst 1, 1) := by decide +kernel
theorem dX11_ruleFor_104 : decode cX11_ruleFor 104 = .ok (.goto 4, 3) := by decide +kernel
theorem dX11_ruleFor_107 : decode cX11_ruleFor 107 = .ok (.iconst 0, 1) := by decide +kernel
theorem dX11_ruleFor_108 : decode cX11_ruleFor 108 = .ok (.istore_n 3, 1) := by decide +kernel
theorem dX11_ruleFor_109 : decode cX11_ruleFor 109 = .ok (.iload_n 3, 1) := by decide +kernel
theorem dX11_ruleFor_110 : decode cX11_ruleFor 110 = .ok (.ifCond .eq 32, 3) := by decide +kernel
theorem dX11_ruleFor_113 : decode cX11_ruleFor 113 = .ok (.iload_n 1, 1) := by decide +kernel
theorem dX11_ruleFor_114 : decode cX11_ruleFor 114 = .ok (.iconst (-1), 1) := by decide +kernel
theorem dX11_ruleFor_115 : decode cX11_ruleFor 115 = .ok (.if_icmp .eq 25, 3) := by decide +kernel
theorem dX11_ruleFor_118 : decode cX11_ruleFor 118 = .ok (.aload_n 0, 1) := by decide +kernel
theorem dX11_ruleFor_119 : decode cX11_ruleFor 119 = .ok (.getfield 7, 3) := by decide +kernel
theorem dX11_ruleFor_122 : decode cX11_ruleFor 122 = .ok (.sipush 242, 3) := by decide +kernel
theorem dX11_ruleFor_125 : decode cX11_ruleFor 125 = .ok (.aload_n 0, 1) := by decide +kernel
theorem dX11_ruleFor_126 : decode cX11_ruleFor 126 = .ok (.aload_n 0, 1) := by decide +kernel
theorem dX11_ruleFor_127 : decode cX11_ruleFor 127 = .ok (.getfield 201, 3) := by decide +kernel
theorem dX11_ruleFor_130 : decode cX11_ruleFor 130 = .ok (.iconst 0, 1) := by decide +kernel
theorem dX11_ruleFor_131 : decode cX11_ruleFor 131 = .ok (.invokevirtual 92, 3) := by decide +kernel
theorem dX11_ruleFor_134 : decode cX11_ruleFor 134 = .ok (.iadd, 1) := by decide +kernel
theorem dX11_ruleFor_135 : decode cX11_ruleFor 135 = .ok (.iaload, 1) := by decide +kernel
theorem dX11_ruleFor_136 : decode cX11_ruleFor 136 = .ok (.iconst 1, 1) := by decide +kernel
theorem dX11_ruleFor_137 : decode cX11_ruleFor 137 = .ok (.if_icmp .ne 5, 3) := by decide +kernel
theorem dX11_ruleFor_140 : decode cX11_ruleFor 140 = .ok (.iload_n 2, 1) := by decide +kernel
theorem dX11_ruleFor_141 : decode cX11_ruleFor 141 = .ok (.istore_n 1, 1) := by decide +kernel
theorem dX11_ruleFor_142 : decode cX11_ruleFor 142 = .ok (.iinc 2 1, 3) := by decide +kernel
theorem dX11_ruleFor_145 : decode cX11_ruleFor 145 = .ok (.goto (-141), 3) := by decide +kernel
theorem dX11_ruleFor_148 : decode cX11_ruleFor 148 = .ok (.iload_n 1, 1) := by decide +kernel
theorem dX11_ruleFor_149 : decode cX11_ruleFor 149 = .ok (.ireturn, 1) := by decide +kernel
theorem dX11_leads_0 : decode cX11_leads 0 = .ok (.aload_n 0, 1) := by decide +kernel
theorem dX11_leads_1 : decode cX11_leads 1 = .ok (.iconst 5, 1) := by decide +kernel
theorem dX11_leads_2 : decode cX11_leads 2 = .ok (.invokevirtual 145, 3) := by decide +kernel
theorem dX11_leads_5 : decode cX11_leads 5 = .ok (.aload_n 0, 1) := by decide +kernel
theorem dX11_leads_6 : decode cX11_leads 6 = .ok (.iload_n 1, 1) := by decide +kernel
theorem dX11_leads_7 : decode cX11_leads 7 = .ok (.putfield 201, 3) := by decide +kernel
theorem dX11_leads_10 : decode cX11_leads 10 = .ok (.aload_n 0, 1) := by decide +kernel
theorem dX11_leads_11 : decode cX11_leads 11 = .ok (.iload_n 2, 1) := by decide +kernel
