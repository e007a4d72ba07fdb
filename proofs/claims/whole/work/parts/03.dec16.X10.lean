theorem dX10_aim_8 : decode cX10_aim 8 = .ok (.ifCond .eq 22, 3) := by decide +kernel
theorem dX10_aim_11 : decode cX10_aim 11 = .ok (.iload_n 2, 1) := by decide +kernel
theorem dX10_aim_12 : decode cX10_aim 12 = .ok (.iconst 1, 1) := by decide +kernel
theorem dX10_aim_13 : decode cX10_aim 13 = .ok (.bipush 99, 2) := by decide +kernel
theorem dX10_aim_15 : decode cX10_aim 15 = .ok (.invokestatic 82, 3) := by decide +kernel
theorem dX10_aim_18 : decode cX10_aim 18 = .ok (.ifCond .eq 12, 3) := by decide +kernel
theorem dX10_aim_21 : decode cX10_aim 21 = .ok (.iload_n 3, 1) := by decide +kernel
theorem dX10_aim_22 : decode cX10_aim 22 = .ok (.iconst 0, 1) := by decide +kernel
theorem dX10_aim_23 : decode cX10_aim 23 = .ok (.iconst 2, 1) := by decide +kernel
theorem dX10_aim_24 : decode cX10_aim 24 = .ok (.invokestatic 82, 3) := by decide +kernel
theorem dX10_aim_27 : decode cX10_aim 27 = .ok (.ifCond .ne 6, 3) := by decide +kernel
theorem dX10_aim_30 : decode cX10_aim 30 = .ok (.bipush (-2), 2) := by decide +kernel
theorem dX10_aim_32 : decode cX10_aim 32 = .ok (.ireturn, 1) := by decide +kernel
theorem dX10_aim_33 : decode cX10_aim 33 = .ok (.aload_n 0, 1) := by decide +kernel
theorem dX10_aim_34 : decode cX10_aim 34 = .ok (.getfield 20, 3) := by decide +kernel
theorem dX10_aim_37 : decode cX10_aim 37 = .ok (.getfield 98, 3) := by decide +kernel
theorem dX10_aim_40 : decode cX10_aim 40 = .ok (.iload_n 1, 1) := by decide +kernel
theorem dX10_aim_41 : decode cX10_aim 41 = .ok (.aaload, 1) := by decide +kernel
theorem dX10_aim_42 : decode cX10_aim 42 = .ok (.getfield 119, 3) := by decide +kernel
theorem dX10_aim_45 : decode cX10_aim 45 = .ok (.ifCond .ne 6, 3) := by decide +kernel
theorem dX10_aim_48 : decode cX10_aim 48 = .ok (.bipush (-3), 2) := by decide +kernel
theorem dX10_aim_50 : decode cX10_aim 50 = .ok (.ireturn, 1) := by decide +kernel
theorem dX10_aim_51 : decode cX10_aim 51 = .ok (.aload_n 0, 1) := by decide +kernel
theorem dX10_aim_52 : decode cX10_aim 52 = .ok (.getfield 46, 3) := by decide +kernel
theorem dX10_aim_55 : decode cX10_aim 55 = .ok (.aload_n 0, 1) := by decide +kernel
theorem dX10_aim_56 : decode cX10_aim 56 = .ok (.getfield 20, 3) := by decide +kernel
theorem dX10_aim_59 : decode cX10_aim 59 = .ok (.aload_n 0, 1) := by decide +kernel
theorem dX10_aim_60 : decode cX10_aim 60 = .ok (.getfield 27, 3) := by decide +kernel
theorem dX10_aim_63 : decode cX10_aim 63 = .ok (.iload_n 1, 1) := by decide +kernel
theorem dX10_aim_64 : decode cX10_aim 64 = .ok (.iload_n 2, 1) := by decide +kernel
theorem dX10_aim_65 : decode cX10_aim 65 = .ok (.invokevirtual 271, 3) := by decide +kernel
theorem dX10_aim_68 : decode cX10_aim 68 = .ok (.iload_n 3, 1) := by decide +kernel
theorem dX10_aim_69 : decode cX10_aim 69 = .ok (.ifCond .ne 11, 3) := by decide +kernel
theorem dX10_aim_72 : decode cX10_aim 72 = .ok (.aload_n 0, 1) := by decide +kernel
theorem dX10_aim_73 : decode cX10_aim 73 = .ok (.getfield 46, 3) := by decide +kernel
theorem dX10_aim_76 : decode cX10_aim 76 = .ok (.getfield 275, 3) := by decide +kernel
theorem dX10_aim_79 : decode cX10_aim 79 = .ok (.ireturn, 1) := by decide +kernel
theorem dX10_aim_80 : decode cX10_aim 80 = .ok (.iload_n 3, 1) := by decide +kernel
theorem dX10_aim_81 : decode cX10_aim 81 = .ok (.iconst 1, 1) := by decide +kernel
theorem dX10_aim_82 : decode cX10_aim 82 = .ok (.if_icmp .ne 25, 3) := by decide +kernel
theorem dX10_aim_85 : decode cX10_aim 85 = .ok (.aload_n 0, 1) := by decide +kernel
theorem dX10_aim_86 : decode cX10_aim 86 = .ok (.getfield 46, 3) := by decide +kernel
theorem dX10_aim_89 : decode cX10_aim 89 = .ok (.getfield 278, 3) := by decide +kernel
theorem dX10_aim_92 : decode cX10_aim 92 = .ok (.ifCond .eq 7, 3) := by decide +kernel
theorem dX10_aim_95 : decode cX10_aim 95 = .ok (.iconst 0, 1) := by decide +kernel
theorem dX10_aim_96 : decode cX10_aim 96 = .ok (.goto 10, 3) := by decide +kernel
theorem dX10_aim_99 : decode cX10_aim 99 = .ok (.aload_n 0, 1) := by decide +kernel
theorem dX10_aim_100 : decode cX10_aim 100 = .ok (.getfield 46, 3) := by decide +kernel
theorem dX10_aim_103 : decode cX10_aim 103 = .ok (.getfield 281, 3) := by decide +kernel
theorem dX10_aim_106 : decode cX10_aim 106 = .ok (.ireturn, 1) := by decide +kernel
theorem dX10_aim_107 : decode cX10_aim 107 = .ok (.aload_n 0, 1) := by decide +kernel
theorem dX10_aim_108 : decode cX10_aim 108 = .ok (.getfield 46, 3) := by decide +kernel
theorem dX10_aim_111 : decode cX10_aim 111 = .ok (.getfield 284, 3) := by decide +kernel
theorem dX10_aim_114 : decode cX10_aim 114 = .ok (.invokestatic 287, 3) := by decide +kernel
theorem dX10_aim_117 : decode cX10_aim 117 = .ok (.ireturn, 1) := by decide +kernel
theorem dX10_next_0 : decode cX10_next 0 = .ok (.aload_n 0, 1) := by decide +kernel
theorem dX10_next_1 : decode cX10_next 1 = .ok (.getfield 31, 3) := by decide +kernel
theorem dX10_next_4 : decode cX10_next 4 = .ok (.aload_n 0, 1) := by decide +kernel
theorem dX10_next_5 : decode cX10_next 5 = .ok (.getfield 20, 3) := by decide +kernel
theorem dX10_next_8 : decode cX10_next 8 = .ok (.invokevirtual 253, 3) := by decide +kernel
theorem dX10_next_11 : decode cX10_next 11 = .ok (.aload_n 0, 1) := by decide +kernel
theorem dX10_next_12 : decode cX10_next 12 = .ok (.getfield 10, 3) := by decide +kernel
theorem dX10_next_15 : decode cX10_next 15 = .ok (.invokevirtual 257, 3) := by decide +kernel
theorem dX10_next_18 : decode cX10_next 18 = .ok (.aload_n 0, 1) := by decide +kernel
theorem dX10_next_19 : decode cX10_next 19 = .ok (.getfield 20, 3) := by decide +kernel
theorem dX10_next_22 : decode cX10_next 22 = .ok (.iconst 1, 1) := by decide +kernel
theorem dX10_next_23 : decode cX10_next 23 = .ok (.aload_n 0, 1) := by decide +kernel
theorem dX10_next_24 : decode cX10_next 24 = .ok (.getfield 20, 3) := by decide +kernel
theorem dX10_next_27 : decode cX10_next 27 = .ok (.getfield 292, 3) := by decide +kernel
theorem dX10_next_30 : decode cX10_next 30 = .ok (.isub, 1) := by decide +kernel
theorem dX10_next_31 : decode cX10_next 31 = .ok (.putfield 292, 3) := by decide +kernel
theorem dX10_next_34 : decode cX10_next 34 = .ok (.aload_n 0, 1) := by decide +kernel
theorem dX10_next_35 : decode cX10_next 35 = .ok (.getfield 20, 3) := by decide +kernel
theorem dX10_next_38 : decode cX10_next 38 = .ok (.invokevirtual 295, 3) := by decide +kernel
theorem dX10_next_41 : decode cX10_next 41 = .ok (.aload_n 0, 1) := by decide +kernel
theorem dX10_next_42 : decode cX10_next 42 = .ok (.getfield 10, 3) := by decide +kernel
theorem dX10_next_45 : decode cX10_next 45 = .ok (.invokevirtual 298, 3) := by decide +kernel
theorem dX10_next_48 : decode cX10_next 48 = .ok (.aload_n 0, 1) := by decide +kernel
theorem dX10_next_49 : decode cX10_next 49 = .ok (.aload_n 0, 1) := by decide +kernel
theorem dX10_next_50 : decode cX10_next 50 = .ok (.getfield 10, 3) := by decide +kernel
theorem dX10_next_53 : decode cX10_next 53 = .ok (.invokevirtual 264, 3) := by decide +kernel
theorem dX10_next_56 : decode cX10_next 56 = .ok (.invokevirtual 267, 3) := by decide +kernel
theorem dX10_next_59 : decode cX10_next 59 = .ok (.ireturn, 1) := by decide +kernel
theorem dX10_shown_0 : decode cX10_shown 0 = .ok (.iload_n 1, 1) := by decide +kernel
theorem dX10_shown_1 : decode cX10_shown 1 = .ok (.iconst (-1), 1) := by decide +kernel
theorem dX10_shown_2 : decode cX10_shown 2 = .ok (.if_icmp .ge 6, 3) := by decide +kernel
theorem dX10_shown_5 : decode cX10_shown 5 = .ok (.bipush (-2), 2) := by decide +kernel
theorem dX10_shown_7 : decode cX10_shown 7 = .ok (.ireturn, 1) := by decide +kernel
theorem dX10_shown_8 : decode cX10_shown 8 = .ok (.iload_n 1, 1) := by decide +kernel
theorem dX10_shown_9 : decode cX10_shown 9 = .ok (.iconst (-1), 1) := by decide +kernel
theorem dX10_shown_10 : decode cX10_shown 10 = .ok (.if_icmp .ne 8, 3) := by decide +kernel
theorem dX10_shown_13 : decode cX10_shown 13 = .ok (.aload_n 0, 1) := by decide +kernel
theorem dX10_shown_14 : decode cX10_shown 14 = .ok (.getfield 75, 3) := by decide +kernel
theorem dX10_shown_17 : decode cX10_shown 17 = .ok (.ireturn, 1) := by decide +kernel
theorem dX10_shown_18 : decode cX10_shown 18 = .ok (.iload_n 1, 1) := by decide +kernel
theorem dX10_shown_19 : decode cX10_shown 19 = .ok (.aload_n 0, 1) := by decide +kernel
theorem dX10_shown_20 : decode cX10_shown 20 = .ok (.getfield 75, 3) := by decide +kernel
theorem dX10_shown_23 : decode cX10_shown 23 = .ok (.if_icmp .ge 9, 3) := by decide +kernel
theorem dX10_shown_26 : decode cX10_shown 26 = .ok (.iload_n 1, 1) := by decide +kernel
theorem dX10_shown_27 : decode cX10_shown 27 = .ok (.bipush 40, 2) := by decide +kernel
theorem dX10_shown_29 : decode cX10_shown 29 = .ok (.if_icmp .lt 5, 3) := by decide +kernel
theorem dX10_shown_32 : decode cX10_shown 32 = .ok (.iconst (-1), 1) := by decide +kernel
theorem dX10_shown_33 : decode cX10_shown 33 = .ok (.ireturn, 1) := by decide +kernel
theorem dX10_shown_34 : decode cX10_shown 34 = .ok (.aload_n 0, 1) := by decide +kernel
theorem dX10_shown_35 : decode cX10_shown 35 = .ok (.getfield 63, 3) := by decide +kernel
theorem dX10_shown_38 : decode cX10_shown 38 = .ok (.iload_n 1, 1) := by decide +kernel
theorem dX10_shown_39 : decode cX10_shown 39 = .ok (.iaload, 1) := by decide +kernel
theorem dX10_shown_40 : decode cX10_shown 40 = .ok (.ireturn, 1) := by decide +kernel
theorem dX10_feed_0 : decode cX10_feed 0 = .ok (.iload_n 2, 1) := by decide +kernel
theorem dX10_feed_1 : decode cX10_feed 1 = .ok (.iconst 1, 1) := by decide +kernel
theorem dX10_feed_2 : decode cX10_feed 2 = .ok (.iconst 4, 1) := by decide +kernel
theorem dX10_feed_3 : decode cX10_feed 3 = .ok (.invokestatic 82, 3) := by decide +kernel
theorem dX10_feed_6 : decode cX10_feed 6 = .ok (.ifCond .ne 6, 3) := by decide +kernel
theorem dX10_feed_9 : decode cX10_feed 9 = .ok (.bipush (-2), 2) := by decide +kernel
theorem dX10_feed_11 : decode cX10_feed 11 = .ok (.ireturn, 1) := by decide +kernel
theorem dX10_feed_12 : decode cX10_feed 12 = .ok (.aload_n 0, 1) := by decide +kernel
theorem dX10_feed_13 : decode cX10_feed 13 = .ok (.getfield 53, 3) := by decide +kernel
theorem dX10_feed_16 : decode cX10_feed 16 = .ok (.getfield 301, 3) := by decide +kernel
theorem dX10_feed_19 : decode cX10_feed 19 = .ok (.bipush 120, 2) := by decide +kernel
theorem dX10_feed_21 : decode cX10_feed 21 = .ok (.iload_n 2, 1) := by decide +kernel
theorem dX10_feed_22 : decode cX10_feed 22 = .ok (.isub, 1) := by decide +kernel
theorem dX10_feed_23 : decode cX10_feed 23 = .ok (.if_icmp .le 6, 3) := by decide +kernel
theorem dX10_feed_26 : decode cX10_feed 26 = .ok (.bipush (-4), 2) := by decide +kernel
theorem dX10_feed_28 : decode cX10_feed 28 = .ok (.ireturn, 1) := by decide +kernel
theorem dX10_feed_29 : decode cX10_feed 29 = .ok (.iload_n 2, 1) := by decide +kernel
theorem dX10_feed_30 : decode cX10_feed 30 = .ok (.iconst 1, 1) := by decide +kernel
theorem dX10_feed_31 : decode cX10_feed 31 = .ok (.isub, 1) := by decide +kernel
theorem dX10_feed_32 : decode cX10_feed 32 = .ok (.istore_n 3, 1) := by decide +kernel
theorem dX10_feed_33 : decode cX10_feed 33 = .ok (.iload_n 3, 1) := by decide +kernel
theorem dX10_feed_34 : decode cX10_feed 34 = .ok (.ifCond .lt 23, 3) := by decide +kernel
theorem dX10_feed_37 : decode cX10_feed 37 = .ok (.aload_n 0, 1) := by decide +kernel
theorem dX10_feed_38 : decode cX10_feed 38 = .ok (.getfield 53, 3) := by decide +kernel
theorem dX10_feed_41 : decode cX10_feed 41 = .ok (.iload_n 1, 1) := by decide +kernel
theorem dX10_feed_42 : decode cX10_feed 42 = .ok (.bipush 8, 2) := by decide +kernel
theorem dX10_feed_44 : decode cX10_feed 44 = .ok (.iload_n 3, 1) := by decide +kernel
theorem dX10_feed_45 : decode cX10_feed 45 = .ok (.imul, 1) := by decide +kernel
theorem dX10_feed_46 : decode cX10_feed 46 = .ok (.ishr, 1) := by decide +kernel
theorem dX10_feed_47 : decode cX10_feed 47 = .ok (.i2b, 1) := by decide +kernel
theorem dX10_feed_48 : decode cX10_feed 48 = .ok (.invokevirtual 304, 3) := by decide +kernel
theorem dX10_feed_51 : decode cX10_feed 51 = .ok (.iinc 3 (-1), 3) := by decide +kernel
theorem dX10_feed_54 : decode cX10_feed 54 = .ok (.goto (-21), 3) := by decide +kernel
theorem dX10_feed_57 : decode cX10_feed 57 = .ok (.aload_n 0, 1) := by decide +kernel
theorem dX10_feed_58 : decode cX10_feed 58 = .ok (.getfield 53, 3) := by decide +kernel
theorem dX10_feed_61 : decode cX10_feed 61 = .ok (.getfield 301, 3) := by decide +kernel
theorem dX10_feed_64 : decode cX10_feed 64 = .ok (.ireturn, 1) := by decide +kernel
theorem dX10_wipe_0 : decode cX10_wipe 0 = .ok (.aload_n 0, 1) := by decide +kernel
theorem dX10_wipe_1 : decode cX10_wipe 1 = .ok (.getfield 53, 3) := by decide +kernel
theorem dX10_wipe_4 : decode cX10_wipe 4 = .ok (.getfield 301, 3) := by decide +kernel
theorem dX10_wipe_7 : decode cX10_wipe 7 = .ok (.istore_n 1, 1) := by decide +kernel
theorem dX10_wipe_8 : decode cX10_wipe 8 = .ok (.aload_n 0, 1) := by decide +kernel
theorem dX10_wipe_9 : decode cX10_wipe 9 = .ok (.getfield 53, 3) := by decide +kernel
theorem dX10_wipe_12 : decode cX10_wipe 12 = .ok (.iconst 0, 1) := by decide +kernel
theorem dX10_wipe_13 : decode cX10_wipe 13 = .ok (.putfield 301, 3) := by decide +kernel
theorem dX10_wipe_16 : decode cX10_wipe 16 = .ok (.iload_n 1, 1) := by decide +kernel
theorem dX10_wipe_17 : decode cX10_wipe 17 = .ok (.ireturn, 1) := by decide +kernel
theorem dX10_text_0 : decode cX10_text 0 = .ok (.aload_n 0, 1) := by decide +kernel
theorem dX10_text_1 : decode cX10_text 1 = .ok (.getfield 53, 3) := by decide +kernel
theorem dX10_text_4 : decode cX10_text 4 = .ok (.bipush 10, 2) := by decide +kernel
theorem dX10_text_6 : decode cX10_text 6 = .ok (.aload_n 0, 1) := by decide +kernel
theorem dX10_text_7 : decode cX10_text 7 = .ok (.getfield 20, 3) := by decide +kernel
theorem dX10_text_10 : decode cX10_text 10 = .ok (.getfield 161, 3) := by decide +kernel
theorem dX10_text_13 : decode cX10_text 13 = .ok (.isub, 1) := by decide +kernel
theorem dX10_text_14 : decode cX10_text 14 = .ok (.invokevirtual 308, 3) := by decide +kernel
theorem dX10_text_17 : decode cX10_text 17 = .ok (.aload_n 0, 1) := by decide +kernel
theorem dX10_text_18 : decode cX10_text 18 = .ok (.getfield 53, 3) := by decide +kernel
theorem dX10_text_21 : decode cX10_text 21 = .ok (.iconst 0, 1) := by decide +kernel
theorem dX10_text_22 : decode cX10_text 22 = .ok (.putfield 301, 3) := by decide +kernel
theorem dX10_text_25 : decode cX10_text 25 = .ok (.aload_n 0, 1) := by decide +kernel
theorem dX10_text_26 : decode cX10_text 26 = .ok (.getfield 53, 3) := by decide +kernel
theorem dX10_text_29 : decode cX10_text 29 = .ok (.getfield 311, 3) := by decide +kernel
theorem dX10_text_32 : decode cX10_text 32 = .ok (.ifCond .lt 14, 3) := by decide +kernel
theorem dX10_text_35 : decode cX10_text 35 = .ok (.bipush (-100), 2) := by decide +kernel
theorem dX10_text_37 : decode cX10_text 37 = .ok (.aload_n 0, 1) := by decide +kernel
theorem dX10_text_38 : decode cX10_text 38 = .ok (.getfield 53, 3) := by decide +kernel
theorem dX10_text_41 : decode cX10_text 41 = .ok (.getfield 311, 3) := by decide +kernel
theorem dX10_text_44 : decode cX10_text 44 = .ok (.isub, 1) := by decide +kernel
theorem dX10_text_45 : decode cX10_text 45 = .ok (.ireturn, 1) := by decide +kernel
theorem dX10_text_46 : decode cX10_text 46 = .ok (.iconst 0, 1) := by decide +kernel
theorem dX10_text_47 : decode cX10_text 47 = .ok (.istore_n 1, 1) := by decide +kernel
theorem dX10_text_48 : decode cX10_text 48 = .ok (.iload_n 1, 1) := by decide +kernel
theorem dX10_text_49 : decode cX10_text 49 = .ok (.aload_n 0, 1) := by decide +kernel
theorem dX10_text_50 : decode cX10_text 50 = .ok (.getfield 53, 3) := by decide +kernel
theorem dX10_text_53 : decode cX10_text 53 = .ok (.getfield 314, 3) := by decide +kernel
theorem dX10_text_56 : decode cX10_text 56 = .ok (.if_icmp .ge 61, 3) := by decide +kernel
theorem dX10_text_59 : decode cX10_text 59 = .ok (.aload_n 0, 1) := by decide +kernel
theorem dX10_text_60 : decode cX10_text 60 = .ok (.getfield 20, 3) := by decide +kernel
theorem dX10_text_63 : decode cX10_text 63 = .ok (.getfield 161, 3) := by decide +kernel
theorem dX10_text_66 : decode cX10_text 66 = .ok (.bipush 10, 2) := by decide +kernel
theorem dX10_text_68 : decode cX10_text 68 = .ok (.if_icmp .ge 49, 3) := by decide +kernel
theorem dX10_text_71 : decode cX10_text 71 = .ok (.aload_n 0, 1) := by decide +kernel
theorem dX10_text_72 : decode cX10_text 72 = .ok (.getfield 20, 3) := by decide +kernel
theorem dX10_text_75 : decode cX10_text 75 = .ok (.getfield 164, 3) := by decide +kernel
theorem dX10_text_78 : decode cX10_text 78 = .ok (.aload_n 0, 1) := by decide +kernel
theorem dX10_text_79 : decode cX10_text 79 = .ok (.getfield 20, 3) := by decide +kernel
theorem dX10_text_82 : decode cX10_text 82 = .ok (.getfield 161, 3) := by decide +kernel
theorem dX10_text_85 : decode cX10_text 85 = .ok (.aaload, 1) := by decide +kernel
theorem dX10_text_86 : decode cX10_text 86 = .ok (.aload_n 0, 1) := by decide +kernel
theorem dX10_text_87 : decode cX10_text 87 = .ok (.getfield 53, 3) := by decide +kernel
theorem dX10_text_90 : decode cX10_text 90 = .ok (.getfield 317, 3) := by decide +kernel
theorem dX10_text_93 : decode cX10_text 93 = .ok (.iload_n 1, 1) := by decide +kernel
theorem dX10_text_94 : decode cX10_text 94 = .ok (.aaload, 1) := by decide +kernel
theorem dX10_text_95 : decode cX10_text 95 = .ok (.invokevirtual 320, 3) := by decide +kernel
theorem dX10_text_98 : decode cX10_text 98 = .ok (.aload_n 0, 1) := by decide +kernel
theorem dX10_text_99 : decode cX10_text 99 = .ok (.getfield 20, 3) := by decide +kernel
theorem dX10_text_102 : decode cX10_text 102 = .ok (.dup, 1) := by decide +kernel
theorem dX10_text_103 : decode cX10_text 103 = .ok (.getfield 161, 3) := by decide +kernel
theorem dX10_text_106 : decode cX10_text 106 = .ok (.iconst 1, 1) := by decide +kernel
theorem dX10_text_107 : decode cX10_text 107 = .ok (.iadd, 1) := by decide +kernel
theorem dX10_text_108 : decode cX10_text 108 = .ok (.putfield 161, 3) := by decide +kernel
theorem dX10_text_111 : decode cX10_text 111 = .ok (.iinc 1 1, 3) := by decide +kernel
theorem dX10_text_114 : decode cX10_text 114 = .ok (.goto (-66), 3) := by decide +kernel
theorem dX10_text_117 : decode cX10_text 117 = .ok (.aload_n 0, 1) := by decide +kernel
theorem dX10_text_118 : decode cX10_text 118 = .ok (.getfield 10, 3) := by decide +kernel
theorem dX10_text_121 : decode cX10_text 121 = .ok (.iconst 0, 1) := by decide +kernel
theorem dX10_text_122 : decode cX10_text 122 = .ok (.invokevirtual 90, 3) := by decide +kernel
theorem dX10_text_125 : decode cX10_text 125 = .ok (.aload_n 0, 1) := by decide +kernel
theorem dX10_text_126 : decode cX10_text 126 = .ok (.getfield 53, 3) := by decide +kernel
theorem dX10_text_129 : decode cX10_text 129 = .ok (.getfield 314, 3) := by decide +kernel
theorem dX10_text_132 : decode cX10_text 132 = .ok (.ireturn, 1) := by decide +kernel
theorem dX10_tell_0 : decode cX10_tell 0 = .ok (.aload_n 0, 1) := by decide +kernel
theorem dX10_tell_1 : decode cX10_tell 1 = .ok (.getfield 20, 3) := by decide +kernel
theorem dX10_tell_4 : decode cX10_tell 4 = .ok (.iload_n 1, 1) := by decide +kernel
theorem dX10_tell_5 : decode cX10_tell 5 = .ok (.invokevirtual 174, 3) := by decide +kernel
theorem dX10_tell_8 : decode cX10_tell 8 = .ok (.ifCond .eq 12, 3) := by decide +kernel
theorem dX10_tell_11 : decode cX10_tell 11 = .ok (.iload_n 2, 1) := by decide +kernel
theorem dX10_tell_12 : decode cX10_tell 12 = .ok (.iconst 0, 1) := by decide +kernel
theorem dX10_tell_13 : decode cX10_tell 13 = .ok (.iconst 3, 1) := by decide +kernel
theorem dX10_tell_14 : decode cX10_tell 14 = .ok (.invokestatic 82, 3) := by decide +kernel
theorem dX10_tell_17 : decode cX10_tell 17 = .ok (.ifCond .ne 6, 3) := by decide +kernel
theorem dX10_tell_20 : decode cX10_tell 20 = .ok (.bipush (-2), 2) := by decide +kernel
theorem dX10_tell_22 : decode cX10_tell 22 = .ok (.ireturn, 1) := by decide +kernel
theorem dX10_tell_23 : decode cX10_tell 23 = .ok (.aload_n 0, 1) := by decide +kernel
theorem dX10_tell_24 : decode cX10_tell 24 = .ok (.getfield 20, 3) := by decide +kernel
theorem dX10_tell_27 : decode cX10_tell 27 = .ok (.getfield 164, 3) := by decide +kernel
theorem dX10_tell_30 : decode cX10_tell 30 = .ok (.iload_n 1, 1) := by decide +kernel
theorem dX10_tell_31 : decode cX10_tell 31 = .ok (.aaload, 1) := by decide +kernel
theorem dX10_tell_32 : decode cX10_tell 32 = .ok (.astore_n 3, 1) := by decide +kernel
theorem dX10_tell_33 : decode cX10_tell 33 = .ok (.aload_n 0, 1) := by decide +kernel
theorem dX10_tell_34 : decode cX10_tell 34 = .ok (.getfield 59, 3) := by decide +kernel
theorem dX10_tell_37 : decode cX10_tell 37 = .ok (.iload_n 2, 1) := by decide +kernel
theorem dX10_tell_38 : decode cX10_tell 38 = .ok (.aaload, 1) := by decide +kernel
theorem dX10_tell_39 : decode cX10_tell 39 = .ok (.astore 4, 2) := by decide +kernel
theorem dX10_tell_41 : decode cX10_tell 41 = .ok (.aload 4, 2) := by decide +kernel
theorem dX10_tell_43 : decode cX10_tell 43 = .ok (.iconst 0, 1) := by decide +kernel
theorem dX10_tell_44 : decode cX10_tell 44 = .ok (.iconst 0, 1) := by decide +kernel
theorem dX10_tell_45 : decode cX10_tell 45 = .ok (.invokevirtual 323, 3) := by decide +kernel
theorem dX10_tell_48 : decode cX10_tell 48 = .ok (.aload 4, 2) := by decide +kernel
theorem dX10_tell_50 : decode cX10_tell 50 = .ok (.aload_n 3, 1) := by decide +kernel
theorem dX10_tell_51 : decode cX10_tell 51 = .ok (.getfield 325, 3) := by decide +kernel
theorem dX10_tell_54 : decode cX10_tell 54 = .ok (.invokestatic 326, 3) := by decide +kernel
theorem dX10_tell_57 : decode cX10_tell 57 = .ok (.invokevirtual 330, 3) := by decide +kernel
theorem dX10_tell_60 : decode cX10_tell 60 = .ok (.aload_n 3, 1) := by decide +kernel
theorem dX10_tell_61 : decode cX10_tell 61 = .ok (.getfield 325, 3) := by decide +kernel
theorem dX10_tell_64 : decode cX10_tell 64 = .ok (.ifCond .eq 12, 3) := by decide +kernel
theorem dX10_tell_67 : decode cX10_tell 67 = .ok (.aload 4, 2) := by decide +kernel
theorem dX10_tell_69 : decode cX10_tell 69 = .ok (.aload_n 3, 1) := by decide +kernel
theorem dX10_tell_70 : decode cX10_tell 70 = .ok (.getfield 334, 3) := by decide +kernel
theorem dX10_tell_73 : decode cX10_tell 73 = .ok (.invokevirtual 335, 3) := by decide +kernel
theorem dX10_tell_76 : decode cX10_tell 76 = .ok (.aload 4, 2) := by decide +kernel
theorem dX10_tell_78 : decode cX10_tell 78 = .ok (.ldc_w 338, 3) := by decide +kernel
theorem dX10_tell_81 : decode cX10_tell 81 = .ok (.invokevirtual 330, 3) := by decide +kernel
theorem dX10_tell_84 : decode cX10_tell 84 = .ok (.aload 4, 2) := by decide +kernel
theorem dX10_tell_86 : decode cX10_tell 86 = .ok (.aload_n 3, 1) := by decide +kernel
theorem dX10_tell_87 : decode cX10_tell 87 = .ok (.getfield 340, 3) := by decide +kernel
theorem dX10_tell_90 : decode cX10_tell 90 = .ok (.invokestatic 341, 3) := by decide +kernel
theorem dX10_tell_93 : decode cX10_tell 93 = .ok (.invokevirtual 330, 3) := by decide +kernel
theorem dX10_tell_96 : decode cX10_tell 96 = .ok (.aload_n 3, 1) := by decide +kernel
theorem dX10_tell_97 : decode cX10_tell 97 = .ok (.getfield 340, 3) := by decide +kernel
theorem dX10_tell_100 : decode cX10_tell 100 = .ok (.iconst 5, 1) := by decide +kernel
theorem dX10_tell_101 : decode cX10_tell 101 = .ok (.if_icmp .eq 12, 3) := by decide +kernel
theorem dX10_tell_104 : decode cX10_tell 104 = .ok (.aload 4, 2) := by decide +kernel
theorem dX10_tell_106 : decode cX10_tell 106 = .ok (.aload_n 3, 1) := by decide +kernel
theorem dX10_tell_107 : decode cX10_tell 107 = .ok (.getfield 344, 3) := by decide +kernel
theorem dX10_tell_110 : decode cX10_tell 110 = .ok (.invokevirtual 335, 3) := by decide +kernel
theorem dX10_tell_113 : decode cX10_tell 113 = .ok (.aload_n 3, 1) := by decide +kernel
theorem dX10_tell_114 : decode cX10_tell 114 = .ok (.getfield 340, 3) := by decide +kernel
theorem dX10_tell_117 : decode cX10_tell 117 = .ok (.iconst 3, 1) := by decide +kernel
theorem dX10_tell_118 : decode cX10_tell 118 = .ok (.if_icmp .eq 11, 3) := by decide +kernel
theorem dX10_tell_121 : decode cX10_tell 121 = .ok (.aload_n 3, 1) := by decide +kernel
theorem dX10_tell_122 : decode cX10_tell 122 = .ok (.getfield 340, 3) := by decide +kernel
theorem dX10_tell_125 : decode cX10_tell 125 = .ok (.iconst 4, 1) := by decide +kernel
theorem dX10_tell_126 : decode cX10_tell 126 = .ok (.if_icmp .ne 12, 3) := by decide +kernel
theorem dX10_tell_129 : decode cX10_tell 129 = .ok (.aload 4, 2) := by decide +kernel
theorem dX10_tell_131 : decode cX10_tell 131 = .ok (.aload_n 3, 1) := by decide +kernel
theorem dX10_tell_132 : decode cX10_tell 132 = .ok (.getfield 345, 3) := by decide +kernel
theorem dX10_tell_135 : decode cX10_tell 135 = .ok (.invokevirtual 335, 3) := by decide +kernel
theorem dX10_tell_138 : decode cX10_tell 138 = .ok (.aload 4, 2) := by decide +kernel
theorem dX10_tell_140 : decode cX10_tell 140 = .ok (.getfield 348, 3) := by decide +kernel
theorem dX10_tell_143 : decode cX10_tell 143 = .ok (.ireturn, 1) := by decide +kernel
theorem dX10_seed_0 : decode cX10_seed 0 = .ok (.aload_n 0, 1) := by decide +kernel
theorem dX10_seed_1 : decode cX10_seed 1 = .ok (.getfield 20, 3) := by decide +kernel
theorem dX10_seed_4 : decode cX10_seed 4 = .ok (.getfield 349, 3) := by decide +kernel
theorem dX10_seed_7 : decode cX10_seed 7 = .ok (.istore_n 2, 1) := by decide +kernel
theorem dX10_seed_8 : decode cX10_seed 8 = .ok (.aload_n 0, 1) := by decide +kernel
theorem dX10_seed_9 : decode cX10_seed 9 = .ok (.getfield 20, 3) := by decide +kernel
theorem dX10_seed_12 : decode cX10_seed 12 = .ok (.iload_n 1, 1) := by decide +kernel
theorem dX10_seed_13 : decode cX10_seed 13 = .ok (.putfield 349, 3) := by decide +kernel
theorem dX10_seed_16 : decode cX10_seed 16 = .ok (.iload_n 2, 1) := by decide +kernel
theorem dX10_seed_17 : decode cX10_seed 17 = .ok (.ireturn, 1) := by decide +kernel
theorem dX10_deal_0 : decode cX10_deal 0 = .ok (.iload_n 1, 1) := by decide +kernel
theorem dX10_deal_1 : decode cX10_deal 1 = .ok (.iconst 0, 1) := by decide +kernel
theorem dX10_deal_2 : decode cX10_deal 2 = .ok (.bipush 8, 2) := by decide +kernel
theorem dX10_deal_4 : decode cX10_deal 4 = .ok (.invokestatic 82, 3) := by decide +kernel
theorem dX10_deal_7 : decode cX10_deal 7 = .ok (.ifCond .ne 6, 3) := by decide +kernel
theorem dX10_deal_10 : decode cX10_deal 10 = .ok (.bipush (-2), 2) := by decide +kernel
theorem dX10_deal_12 : decode cX10_deal 12 = .ok (.ireturn, 1) := by decide +kernel
theorem dX10_deal_13 : decode cX10_deal 13 = .ok (.iconst 0, 1) := by decide +kernel
theorem dX10_deal_14 : decode cX10_deal 14 = .ok (.istore_n 2, 1) := by decide +kernel
theorem dX10_deal_15 : decode cX10_deal 15 = .ok (.iload_n 2, 1) := by decide +kernel
theorem dX10_deal_16 : decode cX10_deal 16 = .ok (.iload_n 1, 1) := by decide +kernel
theorem dX10_deal_17 : decode cX10_deal 17 = .ok (.if_icmp .ge 85, 3) := by decide +kernel
theorem dX10_deal_20 : decode cX10_deal 20 = .ok (.aload_n 0, 1) := by decide +kernel
theorem dX10_deal_21 : decode cX10_deal 21 = .ok (.getfield 20, 3) := by decide +kernel
theorem dX10_deal_24 : decode cX10_deal 24 = .ok (.getfield 68, 3) := by decide +kernel
theorem dX10_deal_27 : decode cX10_deal 27 = .ok (.bipush 8, 2) := by decide +kernel
theorem dX10_deal_29 : decode cX10_deal 29 = .ok (.if_icmp .ge 73, 3) := by decide +kernel
theorem dX10_deal_32 : decode cX10_deal 32 = .ok (.aload_n 0, 1) := by decide +kernel
theorem dX10_deal_33 : decode cX10_deal 33 = .ok (.getfield 20, 3) := by decide +kernel
theorem dX10_deal_36 : decode cX10_deal 36 = .ok (.invokevirtual 352, 3) := by decide +kernel
theorem dX10_deal_39 : decode cX10_deal 39 = .ok (.iconst 2, 1) := by decide +kernel
theorem dX10_deal_40 : decode cX10_deal 40 = .ok (.irem, 1) := by decide +kernel
theorem dX10_deal_41 : decode cX10_deal 41 = .ok (.istore_n 3, 1) := by decide +kernel
theorem dX10_deal_42 : decode cX10_deal 42 = .ok (.aload_n 0, 1) := by decide +kernel
theorem dX10_deal_43 : decode cX10_deal 43 = .ok (.getfield 20, 3) := by decide +kernel
theorem dX10_deal_46 : decode cX10_deal 46 = .ok (.invokevirtual 352, 3) := by decide +kernel
theorem dX10_deal_49 : decode cX10_deal 49 = .ok (.bipush 6, 2) := by decide +kernel
theorem dX10_deal_51 : decode cX10_deal 51 = .ok (.irem, 1) := by decide +kernel
theorem dX10_deal_52 : decode cX10_deal 52 = .ok (.istore 4, 2) := by decide +kernel
theorem dX10_deal_54 : decode cX10_deal 54 = .ok (.aload_n 0, 1) := by decide +kernel
theorem dX10_deal_55 : decode cX10_deal 55 = .ok (.getfield 20, 3) := by decide +kernel
theorem dX10_deal_58 : decode cX10_deal 58 = .ok (.invokevirtual 352, 3) := by decide +kernel
theorem dX10_deal_61 : decode cX10_deal 61 = .ok (.bipush 9, 2) := by decide +kernel
theorem dX10_deal_63 : decode cX10_deal 63 = .ok (.irem, 1) := by decide +kernel
theorem dX10_deal_64 : decode cX10_deal 64 = .ok (.iconst 1, 1) := by decide +kernel
theorem dX10_deal_65 : decode cX10_deal 65 = .ok (.iadd, 1) := by decide +kernel
theorem dX10_deal_66 : decode cX10_deal 66 = .ok (.istore 5, 2) := by decide +kernel
theorem dX10_deal_68 : decode cX10_deal 68 = .ok (.aload_n 0, 1) := by decide +kernel
theorem dX10_deal_69 : decode cX10_deal 69 = .ok (.getfield 20, 3) := by decide +kernel
theorem dX10_deal_72 : decode cX10_deal 72 = .ok (.invokevirtual 352, 3) := by decide +kernel
theorem dX10_deal_75 : decode cX10_deal 75 = .ok (.bipush 9, 2) := by decide +kernel
theorem dX10_deal_77 : decode cX10_deal 77 = .ok (.irem, 1) := by decide +kernel
theorem dX10_deal_78 : decode cX10_deal 78 = .ok (.iconst 1, 1) := by decide +kernel
theorem dX10_deal_79 : decode cX10_deal 79 = .ok (.iadd, 1) := by decide +kernel
theorem dX10_deal_80 : decode cX10_deal 80 = .ok (.istore 6, 2) := by decide +kernel
theorem dX10_deal_82 : decode cX10_deal 82 = .ok (.aload_n 0, 1) := by decide +kernel
theorem dX10_deal_83 : decode cX10_deal 83 = .ok (.getfield 20, 3) := by decide +kernel
theorem dX10_deal_86 : decode cX10_deal 86 = .ok (.iload_n 3, 1) := by decide +kernel
theorem dX10_deal_87 : decode cX10_deal 87 = .ok (.iload 4, 2) := by decide +kernel
theorem dX10_deal_89 : decode cX10_deal 89 = .ok (.iload 5, 2) := by decide +kernel
theorem dX10_deal_91 : decode cX10_deal 91 = .ok (.iload 6, 2) := by decide +kernel
theorem dX10_deal_93 : decode cX10_deal 93 = .ok (.invokevirtual 86, 3) := by decide +kernel
theorem dX10_deal_96 : decode cX10_deal 96 = .ok (.iinc 2 1, 3) := by decide +kernel
theorem dX10_deal_99 : decode cX10_deal 99 = .ok (.goto (-84), 3) := by decide +kernel
theorem dX10_deal_102 : decode cX10_deal 102 = .ok (.aload_n 0, 1) := by decide +kernel
theorem dX10_deal_103 : decode cX10_deal 103 = .ok (.getfield 10, 3) := by decide +kernel
theorem dX10_deal_106 : decode cX10_deal 106 = .ok (.iconst 0, 1) := by decide +kernel
theorem dX10_deal_107 : decode cX10_deal 107 = .ok (.invokevirtual 90, 3) := by decide +kernel
theorem dX10_deal_110 : decode cX10_deal 110 = .ok (.aload_n 0, 1) := by decide +kernel
theorem dX10_deal_111 : decode cX10_deal 111 = .ok (.getfield 20, 3) := by decide +kernel
theorem dX10_deal_114 : decode cX10_deal 114 = .ok (.getfield 68, 3) := by decide +kernel
theorem dX10_deal_117 : decode cX10_deal 117 = .ok (.ireturn, 1) := by decide +kernel
theorem dX10_sheet_0 : decode cX10_sheet 0 = .ok (.iload_n 1, 1) := by decide +kernel
theorem dX10_sheet_1 : decode cX10_sheet 1 = .ok (.iconst 0, 1) := by decide +kernel
theorem dX10_sheet_2 : decode cX10_sheet 2 = .ok (.iconst 3, 1) := by decide +kernel
theorem dX10_sheet_3 : decode cX10_sheet 3 = .ok (.invokestatic 82, 3) := by decide +kernel
theorem dX10_sheet_6 : decode cX10_sheet 6 = .ok (.ifCond .eq 12, 3) := by decide +kernel
theorem dX10_sheet_9 : decode cX10_sheet 9 = .ok (.iload_n 2, 1) := by decide +kernel
theorem dX10_sheet_10 : decode cX10_sheet 10 = .ok (.iconst (-1), 1) := by decide +kernel
theorem dX10_sheet_11 : decode cX10_sheet 11 = .ok (.iconst 1, 1) := by decide +kernel
theorem dX10_sheet_12 : decode cX10_sheet 12 = .ok (.invokestatic 82, 3) := by decide +kernel
theorem dX10_sheet_15 : decode cX10_sheet 15 = .ok (.ifCond .ne 6, 3) := by decide +kernel
theorem dX10_sheet_18 : decode cX10_sheet 18 = .ok (.bipush (-2), 2) := by decide +kernel
theorem dX10_sheet_20 : decode cX10_sheet 20 = .ok (.ireturn, 1) := by decide +kernel
theorem dX10_sheet_21 : decode cX10_sheet 21 = .ok (.iload_n 2, 1) := by decide +kernel
theorem dX10_sheet_22 : decode cX10_sheet 22 = .ok (.iconst (-1), 1) := by decide +kernel
theorem dX10_sheet_23 : decode cX10_sheet 23 = .ok (.if_icmp .ne 16, 3) := by decide +kernel
theorem dX10_sheet_26 : decode cX10_sheet 26 = .ok (.aload_n 0, 1) := by decide +kernel
theorem dX10_sheet_27 : decode cX10_sheet 27 = .ok (.getfield 59, 3) := by decide +kernel
theorem dX10_sheet_30 : decode cX10_sheet 30 = .ok (.iload_n 1, 1) := by decide +kernel
theorem dX10_sheet_31 : decode cX10_sheet 31 = .ok (.aaload, 1) := by decide +kernel
theorem dX10_sheet_32 : decode cX10_sheet 32 = .ok (.iconst (-1), 1) := by decide +kernel
theorem dX10_sheet_33 : decode cX10_sheet 33 = .ok (.iconst 0, 1) := by decide +kernel
theorem dX10_sheet_34 : decode cX10_sheet 34 = .ok (.invokevirtual 323, 3) := by decide +kernel
theorem dX10_sheet_37 : decode cX10_sheet 37 = .ok (.iconst 1, 1) := by decide +kernel
theorem dX10_sheet_38 : decode cX10_sheet 38 = .ok (.ireturn, 1) := by decide +kernel
theorem dX10_sheet_39 : decode cX10_sheet 39 = .ok (.iload_n 3, 1) := by decide +kernel
theorem dX10_sheet_40 : decode cX10_sheet 40 = .ok (.bipush 40, 2) := by decide +kernel
theorem dX10_sheet_42 : decode cX10_sheet 42 = .ok (.if_icmp .le 6, 3) := by decide +kernel
theorem dX10_sheet_45 : decode cX10_sheet 45 = .ok (.bipush (-2), 2) := by decide +kernel
theorem dX10_sheet_47 : decode cX10_sheet 47 = .ok (.ireturn, 1) := by decide +kernel
theorem dX10_sheet_48 : decode cX10_sheet 48 = .ok (.iload_n 3, 1) := by decide +kernel
theorem dX10_sheet_49 : decode cX10_sheet 49 = .ok (.ifCond .ge 6, 3) := by decide +kernel
theorem dX10_sheet_52 : decode cX10_sheet 52 = .ok (.bipush (-14), 2) := by decide +kernel
theorem dX10_sheet_54 : decode cX10_sheet 54 = .ok (.ireturn, 1) := by decide +kernel
theorem dX10_sheet_55 : decode cX10_sheet 55 = .ok (.aload_n 0, 1) := by decide +kernel
theorem dX10_sheet_56 : decode cX10_sheet 56 = .ok (.getfield 59, 3) := by decide +kernel
theorem dX10_sheet_59 : decode cX10_sheet 59 = .ok (.iload_n 1, 1) := by decide +kernel
theorem dX10_sheet_60 : decode cX10_sheet 60 = .ok (.aaload, 1) := by decide +kernel
theorem dX10_sheet_61 : decode cX10_sheet 61 = .ok (.iload_n 2, 1) := by decide +kernel
theorem dX10_sheet_62 : decode cX10_sheet 62 = .ok (.iload_n 3, 1) := by decide +kernel
