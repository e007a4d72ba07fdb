theorem dX11_goesThrough_81 : decode cX11_goesThrough 81 = .ok (.getfield 227, 3) := by decide +kernel
theorem dX11_goesThrough_84 : decode cX11_goesThrough 84 = .ok (.aload_n 0, 1) := by decide +kernel
theorem dX11_goesThrough_85 : decode cX11_goesThrough 85 = .ok (.getfield 28, 3) := by decide +kernel
theorem dX11_goesThrough_88 : decode cX11_goesThrough 88 = .ok (.iconst 2, 1) := by decide +kernel
theorem dX11_goesThrough_89 : decode cX11_goesThrough 89 = .ok (.aload_n 0, 1) := by decide +kernel
theorem dX11_goesThrough_90 : decode cX11_goesThrough 90 = .ok (.getfield 142, 3) := by decide +kernel
theorem dX11_goesThrough_93 : decode cX11_goesThrough 93 = .ok (.imul, 1) := by decide +kernel
theorem dX11_goesThrough_94 : decode cX11_goesThrough 94 = .ok (.iaload, 1) := by decide +kernel
theorem dX11_goesThrough_95 : decode cX11_goesThrough 95 = .ok (.iastore, 1) := by decide +kernel
theorem dX11_goesThrough_96 : decode cX11_goesThrough 96 = .ok (.aload_n 0, 1) := by decide +kernel
theorem dX11_goesThrough_97 : decode cX11_goesThrough 97 = .ok (.dup, 1) := by decide +kernel
theorem dX11_goesThrough_98 : decode cX11_goesThrough 98 = .ok (.getfield 227, 3) := by decide +kernel
theorem dX11_goesThrough_101 : decode cX11_goesThrough 101 = .ok (.iconst 1, 1) := by decide +kernel
theorem dX11_goesThrough_102 : decode cX11_goesThrough 102 = .ok (.iadd, 1) := by decide +kernel
theorem dX11_goesThrough_103 : decode cX11_goesThrough 103 = .ok (.putfield 227, 3) := by decide +kernel
theorem dX11_goesThrough_106 : decode cX11_goesThrough 106 = .ok (.aload_n 0, 1) := by decide +kernel
theorem dX11_goesThrough_107 : decode cX11_goesThrough 107 = .ok (.aload_n 0, 1) := by decide +kernel
theorem dX11_goesThrough_108 : decode cX11_goesThrough 108 = .ok (.getfield 28, 3) := by decide +kernel
theorem dX11_goesThrough_111 : decode cX11_goesThrough 111 = .ok (.iconst 2, 1) := by decide +kernel
theorem dX11_goesThrough_112 : decode cX11_goesThrough 112 = .ok (.aload_n 0, 1) := by decide +kernel
theorem dX11_goesThrough_113 : decode cX11_goesThrough 113 = .ok (.getfield 142, 3) := by decide +kernel
theorem dX11_goesThrough_116 : decode cX11_goesThrough 116 = .ok (.imul, 1) := by decide +kernel
theorem dX11_goesThrough_117 : decode cX11_goesThrough 117 = .ok (.iaload, 1) := by decide +kernel
theorem dX11_goesThrough_118 : decode cX11_goesThrough 118 = .ok (.aload_n 0, 1) := by decide +kernel
theorem dX11_goesThrough_119 : decode cX11_goesThrough 119 = .ok (.getfield 28, 3) := by decide +kernel
theorem dX11_goesThrough_122 : decode cX11_goesThrough 122 = .ok (.iconst 2, 1) := by decide +kernel
theorem dX11_goesThrough_123 : decode cX11_goesThrough 123 = .ok (.aload_n 0, 1) := by decide +kernel
theorem dX11_goesThrough_124 : decode cX11_goesThrough 124 = .ok (.getfield 142, 3) := by decide +kernel
theorem dX11_goesThrough_127 : decode cX11_goesThrough 127 = .ok (.imul, 1) := by decide +kernel
theorem dX11_goesThrough_128 : decode cX11_goesThrough 128 = .ok (.iconst 1, 1) := by decide +kernel
theorem dX11_goesThrough_129 : decode cX11_goesThrough 129 = .ok (.iadd, 1) := by decide +kernel
theorem dX11_goesThrough_130 : decode cX11_goesThrough 130 = .ok (.iaload, 1) := by decide +kernel
theorem dX11_goesThrough_131 : decode cX11_goesThrough 131 = .ok (.invokevirtual 234, 3) := by decide +kernel
theorem dX11_goesThrough_134 : decode cX11_goesThrough 134 = .ok (.aload_n 0, 1) := by decide +kernel
theorem dX11_goesThrough_135 : decode cX11_goesThrough 135 = .ok (.invokevirtual 153, 3) := by decide +kernel
theorem dX11_goesThrough_138 : decode cX11_goesThrough 138 = .ok (.goto (-138), 3) := by decide +kernel
theorem dX11_goesThrough_141 : decode cX11_goesThrough 141 = .ok (.aload_n 0, 1) := by decide +kernel
theorem dX11_goesThrough_142 : decode cX11_goesThrough 142 = .ok (.getfield 227, 3) := by decide +kernel
theorem dX11_goesThrough_145 : decode cX11_goesThrough 145 = .ok (.ireturn, 1) := by decide +kernel
theorem dX11_begins_0 : decode cX11_begins 0 = .ok (.aload_n 0, 1) := by decide +kernel
theorem dX11_begins_1 : decode cX11_begins 1 = .ok (.getfield 7, 3) := by decide +kernel
theorem dX11_begins_4 : decode cX11_begins 4 = .ok (.aload_n 0, 1) := by decide +kernel
theorem dX11_begins_5 : decode cX11_begins 5 = .ok (.getfield 16, 3) := by decide +kernel
theorem dX11_begins_8 : decode cX11_begins 8 = .ok (.invokestatic 230, 3) := by decide +kernel
theorem dX11_begins_11 : decode cX11_begins 11 = .ok (.aload_n 0, 1) := by decide +kernel
theorem dX11_begins_12 : decode cX11_begins 12 = .ok (.iconst 1, 1) := by decide +kernel
theorem dX11_begins_13 : decode cX11_begins 13 = .ok (.putfield 135, 3) := by decide +kernel
theorem dX11_begins_16 : decode cX11_begins 16 = .ok (.aload_n 0, 1) := by decide +kernel
theorem dX11_begins_17 : decode cX11_begins 17 = .ok (.iconst 0, 1) := by decide +kernel
theorem dX11_begins_18 : decode cX11_begins 18 = .ok (.putfield 142, 3) := by decide +kernel
theorem dX11_begins_21 : decode cX11_begins 21 = .ok (.aload_n 0, 1) := by decide +kernel
theorem dX11_begins_22 : decode cX11_begins 22 = .ok (.iconst 0, 1) := by decide +kernel
theorem dX11_begins_23 : decode cX11_begins 23 = .ok (.putfield 227, 3) := by decide +kernel
theorem dX11_begins_26 : decode cX11_begins 26 = .ok (.return_, 1) := by decide +kernel
theorem dX11_hurt_0 : decode cX11_hurt 0 = .ok (.aload_n 0, 1) := by decide +kernel
theorem dX11_hurt_1 : decode cX11_hurt 1 = .ok (.iload_n 1, 1) := by decide +kernel
theorem dX11_hurt_2 : decode cX11_hurt 2 = .ok (.invokevirtual 88, 3) := by decide +kernel
theorem dX11_hurt_5 : decode cX11_hurt 5 = .ok (.ifCond .eq 13, 3) := by decide +kernel
theorem dX11_hurt_8 : decode cX11_hurt 8 = .ok (.iload_n 2, 1) := by decide +kernel
theorem dX11_hurt_9 : decode cX11_hurt 9 = .ok (.iconst 1, 1) := by decide +kernel
theorem dX11_hurt_10 : decode cX11_hurt 10 = .ok (.bipush 99, 2) := by decide +kernel
theorem dX11_hurt_12 : decode cX11_hurt 12 = .ok (.invokestatic 84, 3) := by decide +kernel
theorem dX11_hurt_15 : decode cX11_hurt 15 = .ok (.ifCond .ne 6, 3) := by decide +kernel
theorem dX11_hurt_18 : decode cX11_hurt 18 = .ok (.bipush (-2), 2) := by decide +kernel
theorem dX11_hurt_20 : decode cX11_hurt 20 = .ok (.ireturn, 1) := by decide +kernel
theorem dX11_hurt_21 : decode cX11_hurt 21 = .ok (.aload_n 0, 1) := by decide +kernel
theorem dX11_hurt_22 : decode cX11_hurt 22 = .ok (.iload_n 1, 1) := by decide +kernel
theorem dX11_hurt_23 : decode cX11_hurt 23 = .ok (.invokevirtual 100, 3) := by decide +kernel
theorem dX11_hurt_26 : decode cX11_hurt 26 = .ok (.ifCond .ne 6, 3) := by decide +kernel
theorem dX11_hurt_29 : decode cX11_hurt 29 = .ok (.bipush (-3), 2) := by decide +kernel
theorem dX11_hurt_31 : decode cX11_hurt 31 = .ok (.ireturn, 1) := by decide +kernel
theorem dX11_hurt_32 : decode cX11_hurt 32 = .ok (.aload_n 0, 1) := by decide +kernel
theorem dX11_hurt_33 : decode cX11_hurt 33 = .ok (.invokevirtual 236, 3) := by decide +kernel
theorem dX11_hurt_36 : decode cX11_hurt 36 = .ok (.aload_n 0, 1) := by decide +kernel
theorem dX11_hurt_37 : decode cX11_hurt 37 = .ok (.iload_n 1, 1) := by decide +kernel
theorem dX11_hurt_38 : decode cX11_hurt 38 = .ok (.iload_n 2, 1) := by decide +kernel
theorem dX11_hurt_39 : decode cX11_hurt 39 = .ok (.invokevirtual 224, 3) := by decide +kernel
theorem dX11_hurt_42 : decode cX11_hurt 42 = .ok (.aload_n 0, 1) := by decide +kernel
theorem dX11_hurt_43 : decode cX11_hurt 43 = .ok (.invokevirtual 239, 3) := by decide +kernel
theorem dX11_hurt_46 : decode cX11_hurt 46 = .ok (.ireturn, 1) := by decide +kernel
theorem dX11_next_0 : decode cX11_next 0 = .ok (.aload_n 0, 1) := by decide +kernel
theorem dX11_next_1 : decode cX11_next 1 = .ok (.invokevirtual 236, 3) := by decide +kernel
theorem dX11_next_4 : decode cX11_next 4 = .ok (.aload_n 0, 1) := by decide +kernel
theorem dX11_next_5 : decode cX11_next 5 = .ok (.getfield 7, 3) := by decide +kernel
theorem dX11_next_8 : decode cX11_next 8 = .ok (.sipush 244, 3) := by decide +kernel
theorem dX11_next_11 : decode cX11_next 11 = .ok (.iconst 1, 1) := by decide +kernel
theorem dX11_next_12 : decode cX11_next 12 = .ok (.aload_n 0, 1) := by decide +kernel
theorem dX11_next_13 : decode cX11_next 13 = .ok (.getfield 7, 3) := by decide +kernel
theorem dX11_next_16 : decode cX11_next 16 = .ok (.sipush 244, 3) := by decide +kernel
theorem dX11_next_19 : decode cX11_next 19 = .ok (.iaload, 1) := by decide +kernel
theorem dX11_next_20 : decode cX11_next 20 = .ok (.isub, 1) := by decide +kernel
theorem dX11_next_21 : decode cX11_next 21 = .ok (.iastore, 1) := by decide +kernel
theorem dX11_next_22 : decode cX11_next 22 = .ok (.aload_n 0, 1) := by decide +kernel
theorem dX11_next_23 : decode cX11_next 23 = .ok (.getfield 7, 3) := by decide +kernel
theorem dX11_next_26 : decode cX11_next 26 = .ok (.sipush 239, 3) := by decide +kernel
theorem dX11_next_29 : decode cX11_next 29 = .ok (.iaload, 1) := by decide +kernel
theorem dX11_next_30 : decode cX11_next 30 = .ok (.iconst 1, 1) := by decide +kernel
theorem dX11_next_31 : decode cX11_next 31 = .ok (.isub, 1) := by decide +kernel
theorem dX11_next_32 : decode cX11_next 32 = .ok (.istore_n 1, 1) := by decide +kernel
theorem dX11_next_33 : decode cX11_next 33 = .ok (.iload_n 1, 1) := by decide +kernel
theorem dX11_next_34 : decode cX11_next 34 = .ok (.ifCond .lt 60, 3) := by decide +kernel
theorem dX11_next_37 : decode cX11_next 37 = .ok (.aload_n 0, 1) := by decide +kernel
theorem dX11_next_38 : decode cX11_next 38 = .ok (.iload_n 1, 1) := by decide +kernel
theorem dX11_next_39 : decode cX11_next 39 = .ok (.bipush 6, 2) := by decide +kernel
theorem dX11_next_41 : decode cX11_next 41 = .ok (.invokevirtual 103, 3) := by decide +kernel
theorem dX11_next_44 : decode cX11_next 44 = .ok (.istore_n 2, 1) := by decide +kernel
theorem dX11_next_45 : decode cX11_next 45 = .ok (.aload_n 0, 1) := by decide +kernel
theorem dX11_next_46 : decode cX11_next 46 = .ok (.getfield 7, 3) := by decide +kernel
theorem dX11_next_49 : decode cX11_next 49 = .ok (.bipush 80, 2) := by decide +kernel
theorem dX11_next_51 : decode cX11_next 51 = .ok (.bipush 7, 2) := by decide +kernel
theorem dX11_next_53 : decode cX11_next 53 = .ok (.iload_n 1, 1) := by decide +kernel
theorem dX11_next_54 : decode cX11_next 54 = .ok (.imul, 1) := by decide +kernel
theorem dX11_next_55 : decode cX11_next 55 = .ok (.iadd, 1) := by decide +kernel
theorem dX11_next_56 : decode cX11_next 56 = .ok (.bipush 6, 2) := by decide +kernel
theorem dX11_next_58 : decode cX11_next 58 = .ok (.iadd, 1) := by decide +kernel
theorem dX11_next_59 : decode cX11_next 59 = .ok (.iload_n 2, 1) := by decide +kernel
theorem dX11_next_60 : decode cX11_next 60 = .ok (.ifCond .ne 7, 3) := by decide +kernel
theorem dX11_next_63 : decode cX11_next 63 = .ok (.iconst 0, 1) := by decide +kernel
theorem dX11_next_64 : decode cX11_next 64 = .ok (.goto 6, 3) := by decide +kernel
theorem dX11_next_67 : decode cX11_next 67 = .ok (.iload_n 2, 1) := by decide +kernel
theorem dX11_next_68 : decode cX11_next 68 = .ok (.iconst 1, 1) := by decide +kernel
theorem dX11_next_69 : decode cX11_next 69 = .ok (.isub, 1) := by decide +kernel
theorem dX11_next_70 : decode cX11_next 70 = .ok (.iastore, 1) := by decide +kernel
theorem dX11_next_71 : decode cX11_next 71 = .ok (.iload_n 2, 1) := by decide +kernel
theorem dX11_next_72 : decode cX11_next 72 = .ok (.iconst 1, 1) := by decide +kernel
theorem dX11_next_73 : decode cX11_next 73 = .ok (.if_icmp .ne 15, 3) := by decide +kernel
theorem dX11_next_76 : decode cX11_next 76 = .ok (.aload_n 0, 1) := by decide +kernel
theorem dX11_next_77 : decode cX11_next 77 = .ok (.bipush 80, 2) := by decide +kernel
theorem dX11_next_79 : decode cX11_next 79 = .ok (.bipush 7, 2) := by decide +kernel
theorem dX11_next_81 : decode cX11_next 81 = .ok (.sipush 239, 3) := by decide +kernel
theorem dX11_next_84 : decode cX11_next 84 = .ok (.iload_n 1, 1) := by decide +kernel
theorem dX11_next_85 : decode cX11_next 85 = .ok (.invokevirtual 186, 3) := by decide +kernel
theorem dX11_next_88 : decode cX11_next 88 = .ok (.iinc 1 (-1), 3) := by decide +kernel
theorem dX11_next_91 : decode cX11_next 91 = .ok (.goto (-58), 3) := by decide +kernel
theorem dX11_next_94 : decode cX11_next 94 = .ok (.aload_n 0, 1) := by decide +kernel
theorem dX11_next_95 : decode cX11_next 95 = .ok (.iconst 2, 1) := by decide +kernel
theorem dX11_next_96 : decode cX11_next 96 = .ok (.iconst 0, 1) := by decide +kernel
theorem dX11_next_97 : decode cX11_next 97 = .ok (.invokevirtual 149, 3) := by decide +kernel
theorem dX11_next_100 : decode cX11_next 100 = .ok (.aload_n 0, 1) := by decide +kernel
theorem dX11_next_101 : decode cX11_next 101 = .ok (.invokevirtual 153, 3) := by decide +kernel
theorem dX11_next_104 : decode cX11_next 104 = .ok (.aload_n 0, 1) := by decide +kernel
theorem dX11_next_105 : decode cX11_next 105 = .ok (.invokevirtual 239, 3) := by decide +kernel
theorem dX11_next_108 : decode cX11_next 108 = .ok (.ireturn, 1) := by decide +kernel
theorem dX11_shown_0 : decode cX11_shown 0 = .ok (.iload_n 1, 1) := by decide +kernel
theorem dX11_shown_1 : decode cX11_shown 1 = .ok (.iconst (-1), 1) := by decide +kernel
theorem dX11_shown_2 : decode cX11_shown 2 = .ok (.if_icmp .ge 8, 3) := by decide +kernel
theorem dX11_shown_5 : decode cX11_shown 5 = .ok (.bipush (-2), 2) := by decide +kernel
theorem dX11_shown_7 : decode cX11_shown 7 = .ok (.goto 33, 3) := by decide +kernel
theorem dX11_shown_10 : decode cX11_shown 10 = .ok (.iload_n 1, 1) := by decide +kernel
theorem dX11_shown_11 : decode cX11_shown 11 = .ok (.iconst (-1), 1) := by decide +kernel
theorem dX11_shown_12 : decode cX11_shown 12 = .ok (.if_icmp .ne 10, 3) := by decide +kernel
theorem dX11_shown_15 : decode cX11_shown 15 = .ok (.aload_n 0, 1) := by decide +kernel
theorem dX11_shown_16 : decode cX11_shown 16 = .ok (.getfield 156, 3) := by decide +kernel
theorem dX11_shown_19 : decode cX11_shown 19 = .ok (.goto 21, 3) := by decide +kernel
theorem dX11_shown_22 : decode cX11_shown 22 = .ok (.iload_n 1, 1) := by decide +kernel
theorem dX11_shown_23 : decode cX11_shown 23 = .ok (.aload_n 0, 1) := by decide +kernel
theorem dX11_shown_24 : decode cX11_shown 24 = .ok (.getfield 156, 3) := by decide +kernel
theorem dX11_shown_27 : decode cX11_shown 27 = .ok (.if_icmp .ge 12, 3) := by decide +kernel
theorem dX11_shown_30 : decode cX11_shown 30 = .ok (.aload_n 0, 1) := by decide +kernel
theorem dX11_shown_31 : decode cX11_shown 31 = .ok (.getfield 34, 3) := by decide +kernel
theorem dX11_shown_34 : decode cX11_shown 34 = .ok (.iload_n 1, 1) := by decide +kernel
theorem dX11_shown_35 : decode cX11_shown 35 = .ok (.iaload, 1) := by decide +kernel
theorem dX11_shown_36 : decode cX11_shown 36 = .ok (.goto 4, 3) := by decide +kernel
theorem dX11_shown_39 : decode cX11_shown 39 = .ok (.iconst (-1), 1) := by decide +kernel
theorem dX11_shown_40 : decode cX11_shown 40 = .ok (.ireturn, 1) := by decide +kernel
theorem dX11_feed_0 : decode cX11_feed 0 = .ok (.iload_n 2, 1) := by decide +kernel
theorem dX11_feed_1 : decode cX11_feed 1 = .ok (.iconst 1, 1) := by decide +kernel
theorem dX11_feed_2 : decode cX11_feed 2 = .ok (.iconst 4, 1) := by decide +kernel
theorem dX11_feed_3 : decode cX11_feed 3 = .ok (.invokestatic 84, 3) := by decide +kernel
theorem dX11_feed_6 : decode cX11_feed 6 = .ok (.ifCond .ne 6, 3) := by decide +kernel
theorem dX11_feed_9 : decode cX11_feed 9 = .ok (.bipush (-2), 2) := by decide +kernel
theorem dX11_feed_11 : decode cX11_feed 11 = .ok (.ireturn, 1) := by decide +kernel
theorem dX11_feed_12 : decode cX11_feed 12 = .ok (.aload_n 0, 1) := by decide +kernel
theorem dX11_feed_13 : decode cX11_feed 13 = .ok (.getfield 242, 3) := by decide +kernel
theorem dX11_feed_16 : decode cX11_feed 16 = .ok (.iload_n 2, 1) := by decide +kernel
theorem dX11_feed_17 : decode cX11_feed 17 = .ok (.iadd, 1) := by decide +kernel
theorem dX11_feed_18 : decode cX11_feed 18 = .ok (.bipush 120, 2) := by decide +kernel
theorem dX11_feed_20 : decode cX11_feed 20 = .ok (.if_icmp .le 6, 3) := by decide +kernel
theorem dX11_feed_23 : decode cX11_feed 23 = .ok (.bipush (-4), 2) := by decide +kernel
theorem dX11_feed_25 : decode cX11_feed 25 = .ok (.ireturn, 1) := by decide +kernel
theorem dX11_feed_26 : decode cX11_feed 26 = .ok (.iload_n 2, 1) := by decide +kernel
theorem dX11_feed_27 : decode cX11_feed 27 = .ok (.iconst 1, 1) := by decide +kernel
theorem dX11_feed_28 : decode cX11_feed 28 = .ok (.isub, 1) := by decide +kernel
theorem dX11_feed_29 : decode cX11_feed 29 = .ok (.istore_n 3, 1) := by decide +kernel
theorem dX11_feed_30 : decode cX11_feed 30 = .ok (.iload_n 3, 1) := by decide +kernel
theorem dX11_feed_31 : decode cX11_feed 31 = .ok (.ifCond .lt 38, 3) := by decide +kernel
theorem dX11_feed_34 : decode cX11_feed 34 = .ok (.aload_n 0, 1) := by decide +kernel
theorem dX11_feed_35 : decode cX11_feed 35 = .ok (.getfield 37, 3) := by decide +kernel
theorem dX11_feed_38 : decode cX11_feed 38 = .ok (.aload_n 0, 1) := by decide +kernel
theorem dX11_feed_39 : decode cX11_feed 39 = .ok (.getfield 242, 3) := by decide +kernel
theorem dX11_feed_42 : decode cX11_feed 42 = .ok (.iload_n 1, 1) := by decide +kernel
theorem dX11_feed_43 : decode cX11_feed 43 = .ok (.bipush 8, 2) := by decide +kernel
theorem dX11_feed_45 : decode cX11_feed 45 = .ok (.iload_n 3, 1) := by decide +kernel
theorem dX11_feed_46 : decode cX11_feed 46 = .ok (.imul, 1) := by decide +kernel
theorem dX11_feed_47 : decode cX11_feed 47 = .ok (.ishr, 1) := by decide +kernel
theorem dX11_feed_48 : decode cX11_feed 48 = .ok (.sipush 255, 3) := by decide +kernel
theorem dX11_feed_51 : decode cX11_feed 51 = .ok (.iand, 1) := by decide +kernel
theorem dX11_feed_52 : decode cX11_feed 52 = .ok (.iastore, 1) := by decide +kernel
theorem dX11_feed_53 : decode cX11_feed 53 = .ok (.aload_n 0, 1) := by decide +kernel
theorem dX11_feed_54 : decode cX11_feed 54 = .ok (.dup, 1) := by decide +kernel
theorem dX11_feed_55 : decode cX11_feed 55 = .ok (.getfield 242, 3) := by decide +kernel
theorem dX11_feed_58 : decode cX11_feed 58 = .ok (.iconst 1, 1) := by decide +kernel
theorem dX11_feed_59 : decode cX11_feed 59 = .ok (.iadd, 1) := by decide +kernel
theorem dX11_feed_60 : decode cX11_feed 60 = .ok (.putfield 242, 3) := by decide +kernel
theorem dX11_feed_63 : decode cX11_feed 63 = .ok (.iinc 3 (-1), 3) := by decide +kernel
theorem dX11_feed_66 : decode cX11_feed 66 = .ok (.goto (-36), 3) := by decide +kernel
theorem dX11_feed_69 : decode cX11_feed 69 = .ok (.aload_n 0, 1) := by decide +kernel
theorem dX11_feed_70 : decode cX11_feed 70 = .ok (.getfield 242, 3) := by decide +kernel
theorem dX11_feed_73 : decode cX11_feed 73 = .ok (.ireturn, 1) := by decide +kernel
theorem dX11_wipe_0 : decode cX11_wipe 0 = .ok (.aload_n 0, 1) := by decide +kernel
theorem dX11_wipe_1 : decode cX11_wipe 1 = .ok (.getfield 242, 3) := by decide +kernel
theorem dX11_wipe_4 : decode cX11_wipe 4 = .ok (.istore_n 1, 1) := by decide +kernel
theorem dX11_wipe_5 : decode cX11_wipe 5 = .ok (.aload_n 0, 1) := by decide +kernel
theorem dX11_wipe_6 : decode cX11_wipe 6 = .ok (.iconst 0, 1) := by decide +kernel
theorem dX11_wipe_7 : decode cX11_wipe 7 = .ok (.putfield 242, 3) := by decide +kernel
theorem dX11_wipe_10 : decode cX11_wipe 10 = .ok (.iload_n 1, 1) := by decide +kernel
theorem dX11_wipe_11 : decode cX11_wipe 11 = .ok (.ireturn, 1) := by decide +kernel
theorem dX11_isAt_0 : decode cX11_isAt 0 = .ok (.aload_n 0, 1) := by decide +kernel
theorem dX11_isAt_1 : decode cX11_isAt 1 = .ok (.getfield 245, 3) := by decide +kernel
theorem dX11_isAt_4 : decode cX11_isAt 4 = .ok (.aload_n 0, 1) := by decide +kernel
theorem dX11_isAt_5 : decode cX11_isAt 5 = .ok (.getfield 242, 3) := by decide +kernel
theorem dX11_isAt_8 : decode cX11_isAt 8 = .ok (.if_icmp .ge 24, 3) := by decide +kernel
theorem dX11_isAt_11 : decode cX11_isAt 11 = .ok (.aload_n 0, 1) := by decide +kernel
theorem dX11_isAt_12 : decode cX11_isAt 12 = .ok (.getfield 37, 3) := by decide +kernel
theorem dX11_isAt_15 : decode cX11_isAt 15 = .ok (.aload_n 0, 1) := by decide +kernel
theorem dX11_isAt_16 : decode cX11_isAt 16 = .ok (.getfield 245, 3) := by decide +kernel
theorem dX11_isAt_19 : decode cX11_isAt 19 = .ok (.iaload, 1) := by decide +kernel
theorem dX11_isAt_20 : decode cX11_isAt 20 = .ok (.iload_n 1, 1) := by decide +kernel
theorem dX11_isAt_21 : decode cX11_isAt 21 = .ok (.iload_n 2, 1) := by decide +kernel
theorem dX11_isAt_22 : decode cX11_isAt 22 = .ok (.invokestatic 84, 3) := by decide +kernel
theorem dX11_isAt_25 : decode cX11_isAt 25 = .ok (.ifCond .eq 7, 3) := by decide +kernel
theorem dX11_isAt_28 : decode cX11_isAt 28 = .ok (.iconst 1, 1) := by decide +kernel
theorem dX11_isAt_29 : decode cX11_isAt 29 = .ok (.goto 4, 3) := by decide +kernel
theorem dX11_isAt_32 : decode cX11_isAt 32 = .ok (.iconst 0, 1) := by decide +kernel
theorem dX11_isAt_33 : decode cX11_isAt 33 = .ok (.ireturn, 1) := by decide +kernel
theorem dX11_goesOn_0 : decode cX11_goesOn 0 = .ok (.aload_n 0, 1) := by decide +kernel
theorem dX11_goesOn_1 : decode cX11_goesOn 1 = .ok (.bipush 32, 2) := by decide +kernel
theorem dX11_goesOn_3 : decode cX11_goesOn 3 = .ok (.bipush 32, 2) := by decide +kernel
theorem dX11_goesOn_5 : decode cX11_goesOn 5 = .ok (.invokevirtual 248, 3) := by decide +kernel
theorem dX11_goesOn_8 : decode cX11_goesOn 8 = .ok (.ifCond .eq 16, 3) := by decide +kernel
theorem dX11_goesOn_11 : decode cX11_goesOn 11 = .ok (.aload_n 0, 1) := by decide +kernel
theorem dX11_goesOn_12 : decode cX11_goesOn 12 = .ok (.dup, 1) := by decide +kernel
theorem dX11_goesOn_13 : decode cX11_goesOn 13 = .ok (.getfield 245, 3) := by decide +kernel
theorem dX11_goesOn_16 : decode cX11_goesOn 16 = .ok (.iconst 1, 1) := by decide +kernel
theorem dX11_goesOn_17 : decode cX11_goesOn 17 = .ok (.iadd, 1) := by decide +kernel
theorem dX11_goesOn_18 : decode cX11_goesOn 18 = .ok (.putfield 245, 3) := by decide +kernel
theorem dX11_goesOn_21 : decode cX11_goesOn 21 = .ok (.goto (-21), 3) := by decide +kernel
theorem dX11_goesOn_24 : decode cX11_goesOn 24 = .ok (.aload_n 0, 1) := by decide +kernel
theorem dX11_goesOn_25 : decode cX11_goesOn 25 = .ok (.aload_n 0, 1) := by decide +kernel
theorem dX11_goesOn_26 : decode cX11_goesOn 26 = .ok (.getfield 245, 3) := by decide +kernel
theorem dX11_goesOn_29 : decode cX11_goesOn 29 = .ok (.putfield 251, 3) := by decide +kernel
theorem dX11_goesOn_32 : decode cX11_goesOn 32 = .ok (.aload_n 0, 1) := by decide +kernel
theorem dX11_goesOn_33 : decode cX11_goesOn 33 = .ok (.iconst 0, 1) := by decide +kernel
theorem dX11_goesOn_34 : decode cX11_goesOn 34 = .ok (.putfield 254, 3) := by decide +kernel
theorem dX11_goesOn_37 : decode cX11_goesOn 37 = .ok (.aload_n 0, 1) := by decide +kernel
theorem dX11_goesOn_38 : decode cX11_goesOn 38 = .ok (.getfield 245, 3) := by decide +kernel
theorem dX11_goesOn_41 : decode cX11_goesOn 41 = .ok (.aload_n 0, 1) := by decide +kernel
theorem dX11_goesOn_42 : decode cX11_goesOn 42 = .ok (.getfield 242, 3) := by decide +kernel
theorem dX11_goesOn_45 : decode cX11_goesOn 45 = .ok (.if_icmp .ne 11, 3) := by decide +kernel
theorem dX11_goesOn_48 : decode cX11_goesOn 48 = .ok (.aload_n 0, 1) := by decide +kernel
theorem dX11_goesOn_49 : decode cX11_goesOn 49 = .ok (.iconst 0, 1) := by decide +kernel
theorem dX11_goesOn_50 : decode cX11_goesOn 50 = .ok (.putfield 257, 3) := by decide +kernel
theorem dX11_goesOn_53 : decode cX11_goesOn 53 = .ok (.goto 172, 3) := by decide +kernel
theorem dX11_goesOn_56 : decode cX11_goesOn 56 = .ok (.aload_n 0, 1) := by decide +kernel
theorem dX11_goesOn_57 : decode cX11_goesOn 57 = .ok (.bipush 97, 2) := by decide +kernel
theorem dX11_goesOn_59 : decode cX11_goesOn 59 = .ok (.bipush 122, 2) := by decide +kernel
theorem dX11_goesOn_61 : decode cX11_goesOn 61 = .ok (.invokevirtual 248, 3) := by decide +kernel
theorem dX11_goesOn_64 : decode cX11_goesOn 64 = .ok (.ifCond .eq 32, 3) := by decide +kernel
theorem dX11_goesOn_67 : decode cX11_goesOn 67 = .ok (.aload_n 0, 1) := by decide +kernel
theorem dX11_goesOn_68 : decode cX11_goesOn 68 = .ok (.iconst 1, 1) := by decide +kernel
theorem dX11_goesOn_69 : decode cX11_goesOn 69 = .ok (.putfield 257, 3) := by decide +kernel
theorem dX11_goesOn_72 : decode cX11_goesOn 72 = .ok (.aload_n 0, 1) := by decide +kernel
theorem dX11_goesOn_73 : decode cX11_goesOn 73 = .ok (.bipush 97, 2) := by decide +kernel
theorem dX11_goesOn_75 : decode cX11_goesOn 75 = .ok (.bipush 122, 2) := by decide +kernel
theorem dX11_goesOn_77 : decode cX11_goesOn 77 = .ok (.invokevirtual 248, 3) := by decide +kernel
theorem dX11_goesOn_80 : decode cX11_goesOn 80 = .ok (.ifCond .eq 145, 3) := by decide +kernel
theorem dX11_goesOn_83 : decode cX11_goesOn 83 = .ok (.aload_n 0, 1) := by decide +kernel
theorem dX11_goesOn_84 : decode cX11_goesOn 84 = .ok (.dup, 1) := by decide +kernel
theorem dX11_goesOn_85 : decode cX11_goesOn 85 = .ok (.getfield 245, 3) := by decide +kernel
theorem dX11_goesOn_88 : decode cX11_goesOn 88 = .ok (.iconst 1, 1) := by decide +kernel
theorem dX11_goesOn_89 : decode cX11_goesOn 89 = .ok (.iadd, 1) := by decide +kernel
theorem dX11_goesOn_90 : decode cX11_goesOn 90 = .ok (.putfield 245, 3) := by decide +kernel
theorem dX11_goesOn_93 : decode cX11_goesOn 93 = .ok (.goto (-21), 3) := by decide +kernel
theorem dX11_goesOn_96 : decode cX11_goesOn 96 = .ok (.aload_n 0, 1) := by decide +kernel
theorem dX11_goesOn_97 : decode cX11_goesOn 97 = .ok (.bipush 48, 2) := by decide +kernel
theorem dX11_goesOn_99 : decode cX11_goesOn 99 = .ok (.bipush 57, 2) := by decide +kernel
theorem dX11_goesOn_101 : decode cX11_goesOn 101 = .ok (.invokevirtual 248, 3) := by decide +kernel
theorem dX11_goesOn_104 : decode cX11_goesOn 104 = .ok (.ifCond .eq 72, 3) := by decide +kernel
theorem dX11_goesOn_107 : decode cX11_goesOn 107 = .ok (.aload_n 0, 1) := by decide +kernel
theorem dX11_goesOn_108 : decode cX11_goesOn 108 = .ok (.iconst 2, 1) := by decide +kernel
theorem dX11_goesOn_109 : decode cX11_goesOn 109 = .ok (.putfield 257, 3) := by decide +kernel
theorem dX11_goesOn_112 : decode cX11_goesOn 112 = .ok (.aload_n 0, 1) := by decide +kernel
theorem dX11_goesOn_113 : decode cX11_goesOn 113 = .ok (.bipush 48, 2) := by decide +kernel
theorem dX11_goesOn_115 : decode cX11_goesOn 115 = .ok (.bipush 57, 2) := by decide +kernel
theorem dX11_goesOn_117 : decode cX11_goesOn 117 = .ok (.invokevirtual 248, 3) := by decide +kernel
theorem dX11_goesOn_120 : decode cX11_goesOn 120 = .ok (.ifCond .eq 105, 3) := by decide +kernel
theorem dX11_goesOn_123 : decode cX11_goesOn 123 = .ok (.aload_n 0, 1) := by decide +kernel
theorem dX11_goesOn_124 : decode cX11_goesOn 124 = .ok (.aload_n 0, 1) := by decide +kernel
theorem dX11_goesOn_125 : decode cX11_goesOn 125 = .ok (.getfield 254, 3) := by decide +kernel
theorem dX11_goesOn_128 : decode cX11_goesOn 128 = .ok (.bipush 9, 2) := by decide +kernel
theorem dX11_goesOn_130 : decode cX11_goesOn 130 = .ok (.if_icmp .le 10, 3) := by decide +kernel
theorem dX11_goesOn_133 : decode cX11_goesOn 133 = .ok (.aload_n 0, 1) := by decide +kernel
theorem dX11_goesOn_134 : decode cX11_goesOn 134 = .ok (.getfield 254, 3) := by decide +kernel
theorem dX11_goesOn_137 : decode cX11_goesOn 137 = .ok (.goto 23, 3) := by decide +kernel
theorem dX11_goesOn_140 : decode cX11_goesOn 140 = .ok (.bipush 10, 2) := by decide +kernel
theorem dX11_goesOn_142 : decode cX11_goesOn 142 = .ok (.aload_n 0, 1) := by decide +kernel
theorem dX11_goesOn_143 : decode cX11_goesOn 143 = .ok (.getfield 254, 3) := by decide +kernel
theorem dX11_goesOn_146 : decode cX11_goesOn 146 = .ok (.imul, 1) := by decide +kernel
theorem dX11_goesOn_147 : decode cX11_goesOn 147 = .ok (.aload_n 0, 1) := by decide +kernel
theorem dX11_goesOn_148 : decode cX11_goesOn 148 = .ok (.getfield 37, 3) := by decide +kernel
theorem dX11_goesOn_151 : decode cX11_goesOn 151 = .ok (.aload_n 0, 1) := by decide +kernel
theorem dX11_goesOn_152 : decode cX11_goesOn 152 = .ok (.getfield 245, 3) := by decide +kernel
theorem dX11_goesOn_155 : decode cX11_goesOn 155 = .ok (.iaload, 1) := by decide +kernel
theorem dX11_goesOn_156 : decode cX11_goesOn 156 = .ok (.iadd, 1) := by decide +kernel
theorem dX11_goesOn_157 : decode cX11_goesOn 157 = .ok (.bipush 48, 2) := by decide +kernel
theorem dX11_goesOn_159 : decode cX11_goesOn 159 = .ok (.isub, 1) := by decide +kernel
theorem dX11_goesOn_160 : decode cX11_goesOn 160 = .ok (.putfield 254, 3) := by decide +kernel
theorem dX11_goesOn_163 : decode cX11_goesOn 163 = .ok (.aload_n 0, 1) := by decide +kernel
theorem dX11_goesOn_164 : decode cX11_goesOn 164 = .ok (.dup, 1) := by decide +kernel
theorem dX11_goesOn_165 : decode cX11_goesOn 165 = .ok (.getfield 245, 3) := by decide +kernel
theorem dX11_goesOn_168 : decode cX11_goesOn 168 = .ok (.iconst 1, 1) := by decide +kernel
theorem dX11_goesOn_169 : decode cX11_goesOn 169 = .ok (.iadd, 1) := by decide +kernel
theorem dX11_goesOn_170 : decode cX11_goesOn 170 = .ok (.putfield 245, 3) := by decide +kernel
theorem dX11_goesOn_173 : decode cX11_goesOn 173 = .ok (.goto (-61), 3) := by decide +kernel
theorem dX11_goesOn_176 : decode cX11_goesOn 176 = .ok (.aload_n 0, 1) := by decide +kernel
theorem dX11_goesOn_177 : decode cX11_goesOn 177 = .ok (.aload_n 0, 1) := by decide +kernel
theorem dX11_goesOn_178 : decode cX11_goesOn 178 = .ok (.bipush 59, 2) := by decide +kernel
theorem dX11_goesOn_180 : decode cX11_goesOn 180 = .ok (.bipush 59, 2) := by decide +kernel
theorem dX11_goesOn_182 : decode cX11_goesOn 182 = .ok (.invokevirtual 248, 3) := by decide +kernel
theorem dX11_goesOn_185 : decode cX11_goesOn 185 = .ok (.ifCond .ne 14, 3) := by decide +kernel
theorem dX11_goesOn_188 : decode cX11_goesOn 188 = .ok (.aload_n 0, 1) := by decide +kernel
theorem dX11_goesOn_189 : decode cX11_goesOn 189 = .ok (.bipush 45, 2) := by decide +kernel
theorem dX11_goesOn_191 : decode cX11_goesOn 191 = .ok (.bipush 45, 2) := by decide +kernel
theorem dX11_goesOn_193 : decode cX11_goesOn 193 = .ok (.invokevirtual 248, 3) := by decide +kernel
theorem dX11_goesOn_196 : decode cX11_goesOn 196 = .ok (.ifCond .eq 15, 3) := by decide +kernel
theorem dX11_goesOn_199 : decode cX11_goesOn 199 = .ok (.aload_n 0, 1) := by decide +kernel
theorem dX11_goesOn_200 : decode cX11_goesOn 200 = .ok (.getfield 37, 3) := by decide +kernel
theorem dX11_goesOn_203 : decode cX11_goesOn 203 = .ok (.aload_n 0, 1) := by decide +kernel
theorem dX11_goesOn_204 : decode cX11_goesOn 204 = .ok (.getfield 245, 3) := by decide +kernel
theorem dX11_goesOn_207 : decode cX11_goesOn 207 = .ok (.iaload, 1) := by decide +kernel
theorem dX11_goesOn_208 : decode cX11_goesOn 208 = .ok (.goto 4, 3) := by decide +kernel
theorem dX11_goesOn_211 : decode cX11_goesOn 211 = .ok (.iconst 3, 1) := by decide +kernel
theorem dX11_goesOn_212 : decode cX11_goesOn 212 = .ok (.putfield 257, 3) := by decide +kernel
theorem dX11_goesOn_215 : decode cX11_goesOn 215 = .ok (.aload_n 0, 1) := by decide +kernel
theorem dX11_goesOn_216 : decode cX11_goesOn 216 = .ok (.dup, 1) := by decide +kernel
theorem dX11_goesOn_217 : decode cX11_goesOn 217 = .ok (.getfield 245, 3) := by decide +kernel
theorem dX11_goesOn_220 : decode cX11_goesOn 220 = .ok (.iconst 1, 1) := by decide +kernel
theorem dX11_goesOn_221 : decode cX11_goesOn 221 = .ok (.iadd, 1) := by decide +kernel
theorem dX11_goesOn_222 : decode cX11_goesOn 222 = .ok (.putfield 245, 3) := by decide +kernel
theorem dX11_goesOn_225 : decode cX11_goesOn 225 = .ok (.return_, 1) := by decide +kernel
theorem dX11_isWord_0 : decode cX11_isWord 0 = .ok (.aload_n 0, 1) := by decide +kernel
theorem dX11_isWord_1 : decode cX11_isWord 1 = .ok (.getfield 257, 3) := by decide +kernel
theorem dX11_isWord_4 : decode cX11_isWord 4 = .ok (.iconst 1, 1) := by decide +kernel
theorem dX11_isWord_5 : decode cX11_isWord 5 = .ok (.if_icmp .ne 23, 3) := by decide +kernel
theorem dX11_isWord_8 : decode cX11_isWord 8 = .ok (.aload_n 0, 1) := by decide +kernel
theorem dX11_isWord_9 : decode cX11_isWord 9 = .ok (.getfield 245, 3) := by decide +kernel
theorem dX11_isWord_12 : decode cX11_isWord 12 = .ok (.aload_n 0, 1) := by decide +kernel
theorem dX11_isWord_13 : decode cX11_isWord 13 = .ok (.getfield 251, 3) := by decide +kernel
theorem dX11_isWord_16 : decode cX11_isWord 16 = .ok (.isub, 1) := by decide +kernel
theorem dX11_isWord_17 : decode cX11_isWord 17 = .ok (.aload_n 1, 1) := by decide +kernel
theorem dX11_isWord_18 : decode cX11_isWord 18 = .ok (.invokevirtual 260, 3) := by decide +kernel
theorem dX11_isWord_21 : decode cX11_isWord 21 = .ok (.if_icmp .ne 7, 3) := by decide +kernel
theorem dX11_isWord_24 : decode cX11_isWord 24 = .ok (.iconst 1, 1) := by decide +kernel
theorem dX11_isWord_25 : decode cX11_isWord 25 = .ok (.goto 4, 3) := by decide +kernel
theorem dX11_isWord_28 : decode cX11_isWord 28 = .ok (.iconst 0, 1) := by decide +kernel
theorem dX11_isWord_29 : decode cX11_isWord 29 = .ok (.istore_n 2, 1) := by decide +kernel
theorem dX11_isWord_30 : decode cX11_isWord 30 = .ok (.iconst 0, 1) := by decide +kernel
theorem dX11_isWord_31 : decode cX11_isWord 31 = .ok (.istore_n 3, 1) := by decide +kernel
theorem dX11_isWord_32 : decode cX11_isWord 32 = .ok (.iload_n 3, 1) := by decide +kernel
theorem dX11_isWord_33 : decode cX11_isWord 33 = .ok (.aload_n 1, 1) := by decide +kernel
theorem dX11_isWord_34 : decode cX11_isWord 34 = .ok (.invokevirtual 260, 3) := by decide +kernel
theorem dX11_isWord_37 : decode cX11_isWord 37 = .ok (.if_icmp .ge 38, 3) := by decide +kernel
theorem dX11_isWord_40 : decode cX11_isWord 40 = .ok (.iload_n 2, 1) := by decide +kernel
theorem dX11_isWord_41 : decode cX11_isWord 41 = .ok (.ifCond .eq 34, 3) := by decide +kernel
theorem dX11_isWord_44 : decode cX11_isWord 44 = .ok (.aload_n 0, 1) := by decide +kernel
theorem dX11_isWord_45 : decode cX11_isWord 45 = .ok (.getfield 37, 3) := by decide +kernel
theorem dX11_isWord_48 : decode cX11_isWord 48 = .ok (.aload_n 0, 1) := by decide +kernel
theorem dX11_isWord_49 : decode cX11_isWord 49 = .ok (.getfield 251, 3) := by decide +kernel
theorem dX11_isWord_52 : decode cX11_isWord 52 = .ok (.iload_n 3, 1) := by decide +kernel
theorem dX11_isWord_53 : decode cX11_isWord 53 = .ok (.iadd, 1) := by decide +kernel
theorem dX11_isWord_54 : decode cX11_isWord 54 = .ok (.iaload, 1) := by decide +kernel
theorem dX11_isWord_55 : decode cX11_isWord 55 = .ok (.aload_n 1, 1) := by decide +kernel
theorem dX11_isWord_56 : decode cX11_isWord 56 = .ok (.iload_n 3, 1) := by decide +kernel
theorem dX11_isWord_57 : decode cX11_isWord 57 = .ok (.invokevirtual 263, 3) := by decide +kernel
theorem dX11_isWord_60 : decode cX11_isWord 60 = .ok (.if_icmp .ne 7, 3) := by decide +kernel
theorem dX11_isWord_63 : decode cX11_isWord 63 = .ok (.iconst 1, 1) := by decide +kernel
theorem dX11_isWord_64 : decode cX11_isWord 64 = .ok (.goto 4, 3) := by decide +kernel
theorem dX11_isWord_67 : decode cX11_isWord 67 = .ok (.iconst 0, 1) := by decide +kernel
theorem dX11_isWord_68 : decode cX11_isWord 68 = .ok (.istore_n 2, 1) := by decide +kernel
theorem dX11_isWord_69 : decode cX11_isWord 69 = .ok (.iinc 3 1, 3) := by decide +kernel
theorem dX11_isWord_72 : decode cX11_isWord 72 = .ok (.goto (-40), 3) := by decide +kernel
theorem dX11_isWord_75 : decode cX11_isWord 75 = .ok (.iload_n 2, 1) := by decide +kernel
theorem dX11_isWord_76 : decode cX11_isWord 76 = .ok (.ireturn, 1) := by decide +kernel
theorem dX11_wordOf_0 : decode cX11_wordOf 0 = .ok (.iconst (-1), 1) := by decide +kernel
theorem dX11_wordOf_1 : decode cX11_wordOf 1 = .ok (.istore_n 2, 1) := by decide +kernel
theorem dX11_wordOf_2 : decode cX11_wordOf 2 = .ok (.iconst 0, 1) := by decide +kernel
theorem dX11_wordOf_3 : decode cX11_wordOf 3 = .ok (.istore_n 3, 1) := by decide +kernel
theorem dX11_wordOf_4 : decode cX11_wordOf 4 = .ok (.iload_n 3, 1) := by decide +kernel
theorem dX11_wordOf_5 : decode cX11_wordOf 5 = .ok (.aload_n 1, 1) := by decide +kernel
theorem dX11_wordOf_6 : decode cX11_wordOf 6 = .ok (.arraylength, 1) := by decide +kernel
