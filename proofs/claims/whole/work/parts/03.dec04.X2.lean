theorem dX2_holds_5 : decode cX2_holds 5 = .ok (.aload_n 1, 1) := by decide +kernel
theorem dX2_holds_6 : decode cX2_holds 6 = .ok (.getfield 27, 3) := by decide +kernel
theorem dX2_holds_9 : decode cX2_holds 9 = .ok (.if_icmp .ge 35, 3) := by decide +kernel
theorem dX2_holds_12 : decode cX2_holds 12 = .ok (.aload_n 1, 1) := by decide +kernel
theorem dX2_holds_13 : decode cX2_holds 13 = .ok (.getfield 33, 3) := by decide +kernel
theorem dX2_holds_16 : decode cX2_holds 16 = .ok (.iload_n 2, 1) := by decide +kernel
theorem dX2_holds_17 : decode cX2_holds 17 = .ok (.aaload, 1) := by decide +kernel
theorem dX2_holds_18 : decode cX2_holds 18 = .ok (.iload_n 2, 1) := by decide +kernel
theorem dX2_holds_19 : decode cX2_holds 19 = .ok (.iload_n 3, 1) := by decide +kernel
theorem dX2_holds_20 : decode cX2_holds 20 = .ok (.iload 4, 2) := by decide +kernel
theorem dX2_holds_22 : decode cX2_holds 22 = .ok (.aload_n 0, 1) := by decide +kernel
theorem dX2_holds_23 : decode cX2_holds 23 = .ok (.getfield 9, 3) := by decide +kernel
theorem dX2_holds_26 : decode cX2_holds 26 = .ok (.iload_n 2, 1) := by decide +kernel
theorem dX2_holds_27 : decode cX2_holds 27 = .ok (.iaload, 1) := by decide +kernel
theorem dX2_holds_28 : decode cX2_holds 28 = .ok (.aload_n 0, 1) := by decide +kernel
theorem dX2_holds_29 : decode cX2_holds 29 = .ok (.getfield 15, 3) := by decide +kernel
theorem dX2_holds_32 : decode cX2_holds 32 = .ok (.iload_n 2, 1) := by decide +kernel
theorem dX2_holds_33 : decode cX2_holds 33 = .ok (.iaload, 1) := by decide +kernel
theorem dX2_holds_34 : decode cX2_holds 34 = .ok (.invokestatic 105, 3) := by decide +kernel
theorem dX2_holds_37 : decode cX2_holds 37 = .ok (.ifCond .eq 7, 3) := by decide +kernel
theorem dX2_holds_40 : decode cX2_holds 40 = .ok (.iconst 1, 1) := by decide +kernel
theorem dX2_holds_41 : decode cX2_holds 41 = .ok (.goto 4, 3) := by decide +kernel
theorem dX2_holds_44 : decode cX2_holds 44 = .ok (.iconst 0, 1) := by decide +kernel
theorem dX2_holds_45 : decode cX2_holds 45 = .ok (.ireturn, 1) := by decide +kernel
theorem dX2_fits_0 : decode cX2_fits 0 = .ok (.aload_n 0, 1) := by decide +kernel
theorem dX2_fits_1 : decode cX2_fits 1 = .ok (.getfield 122, 3) := by decide +kernel
theorem dX2_fits_4 : decode cX2_fits 4 = .ok (.ifCond .ne 5, 3) := by decide +kernel
theorem dX2_fits_7 : decode cX2_fits 7 = .ok (.iconst 0, 1) := by decide +kernel
theorem dX2_fits_8 : decode cX2_fits 8 = .ok (.ireturn, 1) := by decide +kernel
theorem dX2_fits_9 : decode cX2_fits 9 = .ok (.iload_n 2, 1) := by decide +kernel
theorem dX2_fits_10 : decode cX2_fits 10 = .ok (.tableswitch 92 0 4 #[34, 36, 50, 62, 77], 34) := by decide +kernel
theorem dX2_fits_44 : decode cX2_fits 44 = .ok (.iconst 1, 1) := by decide +kernel
theorem dX2_fits_45 : decode cX2_fits 45 = .ok (.ireturn, 1) := by decide +kernel
theorem dX2_fits_46 : decode cX2_fits 46 = .ok (.aload_n 0, 1) := by decide +kernel
theorem dX2_fits_47 : decode cX2_fits 47 = .ok (.getfield 126, 3) := by decide +kernel
theorem dX2_fits_50 : decode cX2_fits 50 = .ok (.iload_n 3, 1) := by decide +kernel
theorem dX2_fits_51 : decode cX2_fits 51 = .ok (.if_icmp .ne 7, 3) := by decide +kernel
theorem dX2_fits_54 : decode cX2_fits 54 = .ok (.iconst 1, 1) := by decide +kernel
theorem dX2_fits_55 : decode cX2_fits 55 = .ok (.goto 4, 3) := by decide +kernel
theorem dX2_fits_58 : decode cX2_fits 58 = .ok (.iconst 0, 1) := by decide +kernel
theorem dX2_fits_59 : decode cX2_fits 59 = .ok (.ireturn, 1) := by decide +kernel
theorem dX2_fits_60 : decode cX2_fits 60 = .ok (.iload 4, 2) := by decide +kernel
theorem dX2_fits_62 : decode cX2_fits 62 = .ok (.iload_n 3, 1) := by decide +kernel
theorem dX2_fits_63 : decode cX2_fits 63 = .ok (.if_icmp .ne 7, 3) := by decide +kernel
theorem dX2_fits_66 : decode cX2_fits 66 = .ok (.iconst 1, 1) := by decide +kernel
theorem dX2_fits_67 : decode cX2_fits 67 = .ok (.goto 4, 3) := by decide +kernel
theorem dX2_fits_70 : decode cX2_fits 70 = .ok (.iconst 0, 1) := by decide +kernel
theorem dX2_fits_71 : decode cX2_fits 71 = .ok (.ireturn, 1) := by decide +kernel
theorem dX2_fits_72 : decode cX2_fits 72 = .ok (.iload 5, 2) := by decide +kernel
theorem dX2_fits_74 : decode cX2_fits 74 = .ok (.iload_n 3, 1) := by decide +kernel
theorem dX2_fits_75 : decode cX2_fits 75 = .ok (.ishr, 1) := by decide +kernel
theorem dX2_fits_76 : decode cX2_fits 76 = .ok (.iconst 1, 1) := by decide +kernel
theorem dX2_fits_77 : decode cX2_fits 77 = .ok (.iand, 1) := by decide +kernel
theorem dX2_fits_78 : decode cX2_fits 78 = .ok (.ifCond .eq 7, 3) := by decide +kernel
theorem dX2_fits_81 : decode cX2_fits 81 = .ok (.iconst 1, 1) := by decide +kernel
theorem dX2_fits_82 : decode cX2_fits 82 = .ok (.goto 4, 3) := by decide +kernel
theorem dX2_fits_85 : decode cX2_fits 85 = .ok (.iconst 0, 1) := by decide +kernel
theorem dX2_fits_86 : decode cX2_fits 86 = .ok (.ireturn, 1) := by decide +kernel
theorem dX2_fits_87 : decode cX2_fits 87 = .ok (.iload 5, 2) := by decide +kernel
theorem dX2_fits_89 : decode cX2_fits 89 = .ok (.iload_n 3, 1) := by decide +kernel
theorem dX2_fits_90 : decode cX2_fits 90 = .ok (.ishr, 1) := by decide +kernel
theorem dX2_fits_91 : decode cX2_fits 91 = .ok (.iconst 1, 1) := by decide +kernel
theorem dX2_fits_92 : decode cX2_fits 92 = .ok (.iand, 1) := by decide +kernel
theorem dX2_fits_93 : decode cX2_fits 93 = .ok (.ifCond .ne 7, 3) := by decide +kernel
theorem dX2_fits_96 : decode cX2_fits 96 = .ok (.iconst 1, 1) := by decide +kernel
theorem dX2_fits_97 : decode cX2_fits 97 = .ok (.goto 4, 3) := by decide +kernel
theorem dX2_fits_100 : decode cX2_fits 100 = .ok (.iconst 0, 1) := by decide +kernel
theorem dX2_fits_101 : decode cX2_fits 101 = .ok (.ireturn, 1) := by decide +kernel
theorem dX2_fits_102 : decode cX2_fits 102 = .ok (.iload_n 1, 1) := by decide +kernel
theorem dX2_fits_103 : decode cX2_fits 103 = .ok (.iload_n 3, 1) := by decide +kernel
theorem dX2_fits_104 : decode cX2_fits 104 = .ok (.if_icmp .ne 7, 3) := by decide +kernel
theorem dX2_fits_107 : decode cX2_fits 107 = .ok (.iconst 1, 1) := by decide +kernel
theorem dX2_fits_108 : decode cX2_fits 108 = .ok (.goto 4, 3) := by decide +kernel
theorem dX2_fits_111 : decode cX2_fits 111 = .ok (.iconst 0, 1) := by decide +kernel
theorem dX2_fits_112 : decode cX2_fits 112 = .ok (.ireturn, 1) := by decide +kernel
theorem dX2_forceOf_0 : decode cX2_forceOf 0 = .ok (.aload_n 1, 1) := by decide +kernel
theorem dX2_forceOf_1 : decode cX2_forceOf 1 = .ok (.iload_n 2, 1) := by decide +kernel
theorem dX2_forceOf_2 : decode cX2_forceOf 2 = .ok (.invokevirtual 129, 3) := by decide +kernel
theorem dX2_forceOf_5 : decode cX2_forceOf 5 = .ok (.ifCond .ne 5, 3) := by decide +kernel
theorem dX2_forceOf_8 : decode cX2_forceOf 8 = .ok (.iconst 0, 1) := by decide +kernel
theorem dX2_forceOf_9 : decode cX2_forceOf 9 = .ok (.ireturn, 1) := by decide +kernel
theorem dX2_forceOf_10 : decode cX2_forceOf 10 = .ok (.aload_n 1, 1) := by decide +kernel
theorem dX2_forceOf_11 : decode cX2_forceOf 11 = .ok (.getfield 33, 3) := by decide +kernel
theorem dX2_forceOf_14 : decode cX2_forceOf 14 = .ok (.iload_n 2, 1) := by decide +kernel
theorem dX2_forceOf_15 : decode cX2_forceOf 15 = .ok (.aaload, 1) := by decide +kernel
theorem dX2_forceOf_16 : decode cX2_forceOf 16 = .ok (.getfield 122, 3) := by decide +kernel
theorem dX2_forceOf_19 : decode cX2_forceOf 19 = .ok (.ifCond .eq 12, 3) := by decide +kernel
theorem dX2_forceOf_22 : decode cX2_forceOf 22 = .ok (.aload_n 0, 1) := by decide +kernel
theorem dX2_forceOf_23 : decode cX2_forceOf 23 = .ok (.getfield 18, 3) := by decide +kernel
theorem dX2_forceOf_26 : decode cX2_forceOf 26 = .ok (.iload_n 2, 1) := by decide +kernel
theorem dX2_forceOf_27 : decode cX2_forceOf 27 = .ok (.iaload, 1) := by decide +kernel
theorem dX2_forceOf_28 : decode cX2_forceOf 28 = .ok (.goto 12, 3) := by decide +kernel
theorem dX2_forceOf_31 : decode cX2_forceOf 31 = .ok (.aload_n 1, 1) := by decide +kernel
theorem dX2_forceOf_32 : decode cX2_forceOf 32 = .ok (.getfield 33, 3) := by decide +kernel
theorem dX2_forceOf_35 : decode cX2_forceOf 35 = .ok (.iload_n 2, 1) := by decide +kernel
theorem dX2_forceOf_36 : decode cX2_forceOf 36 = .ok (.aaload, 1) := by decide +kernel
theorem dX2_forceOf_37 : decode cX2_forceOf 37 = .ok (.getfield 133, 3) := by decide +kernel
theorem dX2_forceOf_40 : decode cX2_forceOf 40 = .ok (.ireturn, 1) := by decide +kernel
theorem dX2_remember_0 : decode cX2_remember 0 = .ok (.iload_n 2, 1) := by decide +kernel
theorem dX2_remember_1 : decode cX2_remember 1 = .ok (.iconst 0, 1) := by decide +kernel
theorem dX2_remember_2 : decode cX2_remember 2 = .ok (.bipush 7, 2) := by decide +kernel
theorem dX2_remember_4 : decode cX2_remember 4 = .ok (.invokestatic 136, 3) := by decide +kernel
theorem dX2_remember_7 : decode cX2_remember 7 = .ok (.ifCond .eq 43, 3) := by decide +kernel
theorem dX2_remember_10 : decode cX2_remember 10 = .ok (.aload_n 1, 1) := by decide +kernel
theorem dX2_remember_11 : decode cX2_remember 11 = .ok (.aload_n 0, 1) := by decide +kernel
theorem dX2_remember_12 : decode cX2_remember 12 = .ok (.getfield 9, 3) := by decide +kernel
theorem dX2_remember_15 : decode cX2_remember 15 = .ok (.iload_n 2, 1) := by decide +kernel
theorem dX2_remember_16 : decode cX2_remember 16 = .ok (.iaload, 1) := by decide +kernel
theorem dX2_remember_17 : decode cX2_remember 17 = .ok (.putfield 140, 3) := by decide +kernel
theorem dX2_remember_20 : decode cX2_remember 20 = .ok (.aload_n 1, 1) := by decide +kernel
theorem dX2_remember_21 : decode cX2_remember 21 = .ok (.aload_n 0, 1) := by decide +kernel
theorem dX2_remember_22 : decode cX2_remember 22 = .ok (.getfield 15, 3) := by decide +kernel
theorem dX2_remember_25 : decode cX2_remember 25 = .ok (.iload_n 2, 1) := by decide +kernel
theorem dX2_remember_26 : decode cX2_remember 26 = .ok (.iaload, 1) := by decide +kernel
theorem dX2_remember_27 : decode cX2_remember 27 = .ok (.putfield 143, 3) := by decide +kernel
theorem dX2_remember_30 : decode cX2_remember 30 = .ok (.aload_n 1, 1) := by decide +kernel
theorem dX2_remember_31 : decode cX2_remember 31 = .ok (.aload_n 0, 1) := by decide +kernel
theorem dX2_remember_32 : decode cX2_remember 32 = .ok (.getfield 18, 3) := by decide +kernel
theorem dX2_remember_35 : decode cX2_remember 35 = .ok (.iload_n 2, 1) := by decide +kernel
theorem dX2_remember_36 : decode cX2_remember 36 = .ok (.iaload, 1) := by decide +kernel
theorem dX2_remember_37 : decode cX2_remember 37 = .ok (.putfield 133, 3) := by decide +kernel
theorem dX2_remember_40 : decode cX2_remember 40 = .ok (.aload_n 1, 1) := by decide +kernel
theorem dX2_remember_41 : decode cX2_remember 41 = .ok (.aload_n 0, 1) := by decide +kernel
theorem dX2_remember_42 : decode cX2_remember 42 = .ok (.getfield 21, 3) := by decide +kernel
theorem dX2_remember_45 : decode cX2_remember 45 = .ok (.iload_n 2, 1) := by decide +kernel
theorem dX2_remember_46 : decode cX2_remember 46 = .ok (.iaload, 1) := by decide +kernel
theorem dX2_remember_47 : decode cX2_remember 47 = .ok (.putfield 146, 3) := by decide +kernel
theorem dX2_remember_50 : decode cX2_remember 50 = .ok (.return_, 1) := by decide +kernel
