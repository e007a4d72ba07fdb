theorem dX0_init_0 : decode cX0_init 0 = .ok (.aload_n 0, 1) := by decide +kernel
theorem dX0_init_1 : decode cX0_init 1 = .ok (.invokespecial 3, 3) := by decide +kernel
theorem dX0_init_4 : decode cX0_init 4 = .ok (.aload_n 0, 1) := by decide +kernel
theorem dX0_init_5 : decode cX0_init 5 = .ok (.new 9, 3) := by decide +kernel
theorem dX0_init_8 : decode cX0_init 8 = .ok (.dup, 1) := by decide +kernel
theorem dX0_init_9 : decode cX0_init 9 = .ok (.invokespecial 11, 3) := by decide +kernel
theorem dX0_init_12 : decode cX0_init 12 = .ok (.putfield 12, 3) := by decide +kernel
theorem dX0_init_15 : decode cX0_init 15 = .ok (.aload_n 0, 1) := by decide +kernel
theorem dX0_init_16 : decode cX0_init 16 = .ok (.new 18, 3) := by decide +kernel
theorem dX0_init_19 : decode cX0_init 19 = .ok (.dup, 1) := by decide +kernel
theorem dX0_init_20 : decode cX0_init 20 = .ok (.invokespecial 20, 3) := by decide +kernel
theorem dX0_init_23 : decode cX0_init 23 = .ok (.putfield 21, 3) := by decide +kernel
theorem dX0_init_26 : decode cX0_init 26 = .ok (.aload_n 0, 1) := by decide +kernel
theorem dX0_init_27 : decode cX0_init 27 = .ok (.new 25, 3) := by decide +kernel
theorem dX0_init_30 : decode cX0_init 30 = .ok (.dup, 1) := by decide +kernel
theorem dX0_init_31 : decode cX0_init 31 = .ok (.invokespecial 27, 3) := by decide +kernel
theorem dX0_init_34 : decode cX0_init 34 = .ok (.putfield 28, 3) := by decide +kernel
theorem dX0_init_37 : decode cX0_init 37 = .ok (.aload_n 0, 1) := by decide +kernel
theorem dX0_init_38 : decode cX0_init 38 = .ok (.sipush 400, 3) := by decide +kernel
theorem dX0_init_41 : decode cX0_init 41 = .ok (.newarray .int, 2) := by decide +kernel
theorem dX0_init_43 : decode cX0_init 43 = .ok (.putfield 32, 3) := by decide +kernel
theorem dX0_init_46 : decode cX0_init 46 = .ok (.aload_n 0, 1) := by decide +kernel
theorem dX0_init_47 : decode cX0_init 47 = .ok (.sipush 400, 3) := by decide +kernel
theorem dX0_init_50 : decode cX0_init 50 = .ok (.newarray .int, 2) := by decide +kernel
theorem dX0_init_52 : decode cX0_init 52 = .ok (.putfield 36, 3) := by decide +kernel
theorem dX0_init_55 : decode cX0_init 55 = .ok (.aload_n 0, 1) := by decide +kernel
theorem dX0_init_56 : decode cX0_init 56 = .ok (.bipush 40, 2) := by decide +kernel
theorem dX0_init_58 : decode cX0_init 58 = .ok (.newarray .int, 2) := by decide +kernel
theorem dX0_init_60 : decode cX0_init 60 = .ok (.putfield 39, 3) := by decide +kernel
theorem dX0_init_63 : decode cX0_init 63 = .ok (.return_, 1) := by decide +kernel
theorem dX0_begin_0 : decode cX0_begin 0 = .ok (.aload_n 0, 1) := by decide +kernel
theorem dX0_begin_1 : decode cX0_begin 1 = .ok (.iconst 0, 1) := by decide +kernel
theorem dX0_begin_2 : decode cX0_begin 2 = .ok (.putfield 42, 3) := by decide +kernel
theorem dX0_begin_5 : decode cX0_begin 5 = .ok (.return_, 1) := by decide +kernel
theorem dX0_settle_0 : decode cX0_settle 0 = .ok (.iconst 0, 1) := by decide +kernel
theorem dX0_settle_1 : decode cX0_settle 1 = .ok (.istore_n 2, 1) := by decide +kernel
theorem dX0_settle_2 : decode cX0_settle 2 = .ok (.iload_n 2, 1) := by decide +kernel
theorem dX0_settle_3 : decode cX0_settle 3 = .ok (.bipush 8, 2) := by decide +kernel
theorem dX0_settle_5 : decode cX0_settle 5 = .ok (.if_icmp .gt 46, 3) := by decide +kernel
theorem dX0_settle_8 : decode cX0_settle 8 = .ok (.aload_n 0, 1) := by decide +kernel
theorem dX0_settle_9 : decode cX0_settle 9 = .ok (.getfield 21, 3) := by decide +kernel
theorem dX0_settle_12 : decode cX0_settle 12 = .ok (.aload_n 0, 1) := by decide +kernel
theorem dX0_settle_13 : decode cX0_settle 13 = .ok (.getfield 12, 3) := by decide +kernel
theorem dX0_settle_16 : decode cX0_settle 16 = .ok (.iconst 5, 1) := by decide +kernel
theorem dX0_settle_17 : decode cX0_settle 17 = .ok (.invokevirtual 46, 3) := by decide +kernel
theorem dX0_settle_20 : decode cX0_settle 20 = .ok (.aload_n 0, 1) := by decide +kernel
theorem dX0_settle_21 : decode cX0_settle 21 = .ok (.invokevirtual 50, 3) := by decide +kernel
theorem dX0_settle_24 : decode cX0_settle 24 = .ok (.istore_n 3, 1) := by decide +kernel
theorem dX0_settle_25 : decode cX0_settle 25 = .ok (.iload_n 3, 1) := by decide +kernel
theorem dX0_settle_26 : decode cX0_settle 26 = .ok (.ifCond .ne 4, 3) := by decide +kernel
theorem dX0_settle_29 : decode cX0_settle 29 = .ok (.return_, 1) := by decide +kernel
theorem dX0_settle_30 : decode cX0_settle 30 = .ok (.iload_n 1, 1) := by decide +kernel
theorem dX0_settle_31 : decode cX0_settle 31 = .ok (.ifCond .eq 9, 3) := by decide +kernel
theorem dX0_settle_34 : decode cX0_settle 34 = .ok (.aload_n 0, 1) := by decide +kernel
theorem dX0_settle_35 : decode cX0_settle 35 = .ok (.iconst 1, 1) := by decide +kernel
theorem dX0_settle_36 : decode cX0_settle 36 = .ok (.iload_n 3, 1) := by decide +kernel
theorem dX0_settle_37 : decode cX0_settle 37 = .ok (.invokevirtual 54, 3) := by decide +kernel
theorem dX0_settle_40 : decode cX0_settle 40 = .ok (.aload_n 0, 1) := by decide +kernel
theorem dX0_settle_41 : decode cX0_settle 41 = .ok (.iload_n 3, 1) := by decide +kernel
theorem dX0_settle_42 : decode cX0_settle 42 = .ok (.invokevirtual 58, 3) := by decide +kernel
theorem dX0_settle_45 : decode cX0_settle 45 = .ok (.iinc 2 1, 3) := by decide +kernel
theorem dX0_settle_48 : decode cX0_settle 48 = .ok (.goto (-46), 3) := by decide +kernel
theorem dX0_settle_51 : decode cX0_settle 51 = .ok (.return_, 1) := by decide +kernel
theorem dX0_dyingBits_0 : decode cX0_dyingBits 0 = .ok (.iconst 0, 1) := by decide +kernel
theorem dX0_dyingBits_1 : decode cX0_dyingBits 1 = .ok (.istore_n 1, 1) := by decide +kernel
theorem dX0_dyingBits_2 : decode cX0_dyingBits 2 = .ok (.iconst 0, 1) := by decide +kernel
theorem dX0_dyingBits_3 : decode cX0_dyingBits 3 = .ok (.istore_n 2, 1) := by decide +kernel
theorem dX0_dyingBits_4 : decode cX0_dyingBits 4 = .ok (.iload_n 2, 1) := by decide +kernel
theorem dX0_dyingBits_5 : decode cX0_dyingBits 5 = .ok (.aload_n 0, 1) := by decide +kernel
theorem dX0_dyingBits_6 : decode cX0_dyingBits 6 = .ok (.getfield 12, 3) := by decide +kernel
theorem dX0_dyingBits_9 : decode cX0_dyingBits 9 = .ok (.getfield 62, 3) := by decide +kernel
theorem dX0_dyingBits_12 : decode cX0_dyingBits 12 = .ok (.if_icmp .ge 54, 3) := by decide +kernel
theorem dX0_dyingBits_15 : decode cX0_dyingBits 15 = .ok (.aload_n 0, 1) := by decide +kernel
theorem dX0_dyingBits_16 : decode cX0_dyingBits 16 = .ok (.getfield 12, 3) := by decide +kernel
theorem dX0_dyingBits_19 : decode cX0_dyingBits 19 = .ok (.getfield 65, 3) := by decide +kernel
theorem dX0_dyingBits_22 : decode cX0_dyingBits 22 = .ok (.iload_n 2, 1) := by decide +kernel
theorem dX0_dyingBits_23 : decode cX0_dyingBits 23 = .ok (.aaload, 1) := by decide +kernel
theorem dX0_dyingBits_24 : decode cX0_dyingBits 24 = .ok (.getfield 69, 3) := by decide +kernel
theorem dX0_dyingBits_27 : decode cX0_dyingBits 27 = .ok (.ifCond .eq 33, 3) := by decide +kernel
theorem dX0_dyingBits_30 : decode cX0_dyingBits 30 = .ok (.aload_n 0, 1) := by decide +kernel
theorem dX0_dyingBits_31 : decode cX0_dyingBits 31 = .ok (.getfield 12, 3) := by decide +kernel
theorem dX0_dyingBits_34 : decode cX0_dyingBits 34 = .ok (.getfield 65, 3) := by decide +kernel
theorem dX0_dyingBits_37 : decode cX0_dyingBits 37 = .ok (.iload_n 2, 1) := by decide +kernel
theorem dX0_dyingBits_38 : decode cX0_dyingBits 38 = .ok (.aaload, 1) := by decide +kernel
theorem dX0_dyingBits_39 : decode cX0_dyingBits 39 = .ok (.getfield 75, 3) := by decide +kernel
theorem dX0_dyingBits_42 : decode cX0_dyingBits 42 = .ok (.aload_n 0, 1) := by decide +kernel
theorem dX0_dyingBits_43 : decode cX0_dyingBits 43 = .ok (.getfield 21, 3) := by decide +kernel
theorem dX0_dyingBits_46 : decode cX0_dyingBits 46 = .ok (.getfield 78, 3) := by decide +kernel
theorem dX0_dyingBits_49 : decode cX0_dyingBits 49 = .ok (.iload_n 2, 1) := by decide +kernel
theorem dX0_dyingBits_50 : decode cX0_dyingBits 50 = .ok (.iaload, 1) := by decide +kernel
theorem dX0_dyingBits_51 : decode cX0_dyingBits 51 = .ok (.if_icmp .lt 9, 3) := by decide +kernel
theorem dX0_dyingBits_54 : decode cX0_dyingBits 54 = .ok (.iload_n 1, 1) := by decide +kernel
theorem dX0_dyingBits_55 : decode cX0_dyingBits 55 = .ok (.iconst 1, 1) := by decide +kernel
theorem dX0_dyingBits_56 : decode cX0_dyingBits 56 = .ok (.iload_n 2, 1) := by decide +kernel
theorem dX0_dyingBits_57 : decode cX0_dyingBits 57 = .ok (.ishl, 1) := by decide +kernel
theorem dX0_dyingBits_58 : decode cX0_dyingBits 58 = .ok (.ior, 1) := by decide +kernel
theorem dX0_dyingBits_59 : decode cX0_dyingBits 59 = .ok (.istore_n 1, 1) := by decide +kernel
theorem dX0_dyingBits_60 : decode cX0_dyingBits 60 = .ok (.iinc 2 1, 3) := by decide +kernel
theorem dX0_dyingBits_63 : decode cX0_dyingBits 63 = .ok (.goto (-59), 3) := by decide +kernel
theorem dX0_dyingBits_66 : decode cX0_dyingBits 66 = .ok (.iload_n 1, 1) := by decide +kernel
theorem dX0_dyingBits_67 : decode cX0_dyingBits 67 = .ok (.ireturn, 1) := by decide +kernel
theorem dX0_bury_0 : decode cX0_bury 0 = .ok (.iconst 0, 1) := by decide +kernel
theorem dX0_bury_1 : decode cX0_bury 1 = .ok (.istore_n 2, 1) := by decide +kernel
theorem dX0_bury_2 : decode cX0_bury 2 = .ok (.iload_n 2, 1) := by decide +kernel
theorem dX0_bury_3 : decode cX0_bury 3 = .ok (.aload_n 0, 1) := by decide +kernel
theorem dX0_bury_4 : decode cX0_bury 4 = .ok (.getfield 12, 3) := by decide +kernel
theorem dX0_bury_7 : decode cX0_bury 7 = .ok (.getfield 62, 3) := by decide +kernel
theorem dX0_bury_10 : decode cX0_bury 10 = .ok (.if_icmp .ge 47, 3) := by decide +kernel
theorem dX0_bury_13 : decode cX0_bury 13 = .ok (.iload_n 1, 1) := by decide +kernel
theorem dX0_bury_14 : decode cX0_bury 14 = .ok (.iload_n 2, 1) := by decide +kernel
theorem dX0_bury_15 : decode cX0_bury 15 = .ok (.ishr, 1) := by decide +kernel
theorem dX0_bury_16 : decode cX0_bury 16 = .ok (.iconst 1, 1) := by decide +kernel
theorem dX0_bury_17 : decode cX0_bury 17 = .ok (.iand, 1) := by decide +kernel
theorem dX0_bury_18 : decode cX0_bury 18 = .ok (.ifCond .eq 33, 3) := by decide +kernel
theorem dX0_bury_21 : decode cX0_bury 21 = .ok (.aload_n 0, 1) := by decide +kernel
theorem dX0_bury_22 : decode cX0_bury 22 = .ok (.getfield 21, 3) := by decide +kernel
theorem dX0_bury_25 : decode cX0_bury 25 = .ok (.aload_n 0, 1) := by decide +kernel
theorem dX0_bury_26 : decode cX0_bury 26 = .ok (.getfield 12, 3) := by decide +kernel
theorem dX0_bury_29 : decode cX0_bury 29 = .ok (.getfield 65, 3) := by decide +kernel
theorem dX0_bury_32 : decode cX0_bury 32 = .ok (.iload_n 2, 1) := by decide +kernel
theorem dX0_bury_33 : decode cX0_bury 33 = .ok (.aaload, 1) := by decide +kernel
theorem dX0_bury_34 : decode cX0_bury 34 = .ok (.iload_n 2, 1) := by decide +kernel
theorem dX0_bury_35 : decode cX0_bury 35 = .ok (.invokevirtual 81, 3) := by decide +kernel
theorem dX0_bury_38 : decode cX0_bury 38 = .ok (.aload_n 0, 1) := by decide +kernel
theorem dX0_bury_39 : decode cX0_bury 39 = .ok (.getfield 12, 3) := by decide +kernel
theorem dX0_bury_42 : decode cX0_bury 42 = .ok (.getfield 65, 3) := by decide +kernel
theorem dX0_bury_45 : decode cX0_bury 45 = .ok (.iload_n 2, 1) := by decide +kernel
theorem dX0_bury_46 : decode cX0_bury 46 = .ok (.aaload, 1) := by decide +kernel
theorem dX0_bury_47 : decode cX0_bury 47 = .ok (.iconst 0, 1) := by decide +kernel
theorem dX0_bury_48 : decode cX0_bury 48 = .ok (.putfield 69, 3) := by decide +kernel
theorem dX0_bury_51 : decode cX0_bury 51 = .ok (.iinc 2 1, 3) := by decide +kernel
theorem dX0_bury_54 : decode cX0_bury 54 = .ok (.goto (-52), 3) := by decide +kernel
theorem dX0_bury_57 : decode cX0_bury 57 = .ok (.return_, 1) := by decide +kernel
theorem dX0_setOffByTurn_0 : decode cX0_setOffByTurn 0 = .ok (.iconst 0, 1) := by decide +kernel
theorem dX0_setOffByTurn_1 : decode cX0_setOffByTurn 1 = .ok (.istore_n 1, 1) := by decide +kernel
theorem dX0_setOffByTurn_2 : decode cX0_setOffByTurn 2 = .ok (.iload_n 1, 1) := by decide +kernel
theorem dX0_setOffByTurn_3 : decode cX0_setOffByTurn 3 = .ok (.aload_n 0, 1) := by decide +kernel
theorem dX0_setOffByTurn_4 : decode cX0_setOffByTurn 4 = .ok (.getfield 12, 3) := by decide +kernel
theorem dX0_setOffByTurn_7 : decode cX0_setOffByTurn 7 = .ok (.getfield 85, 3) := by decide +kernel
theorem dX0_setOffByTurn_10 : decode cX0_setOffByTurn 10 = .ok (.if_icmp .ge 53, 3) := by decide +kernel
theorem dX0_setOffByTurn_13 : decode cX0_setOffByTurn 13 = .ok (.aload_n 0, 1) := by decide +kernel
theorem dX0_setOffByTurn_14 : decode cX0_setOffByTurn 14 = .ok (.getfield 12, 3) := by decide +kernel
theorem dX0_setOffByTurn_17 : decode cX0_setOffByTurn 17 = .ok (.getfield 88, 3) := by decide +kernel
theorem dX0_setOffByTurn_20 : decode cX0_setOffByTurn 20 = .ok (.iload_n 1, 1) := by decide +kernel
theorem dX0_setOffByTurn_21 : decode cX0_setOffByTurn 21 = .ok (.aaload, 1) := by decide +kernel
theorem dX0_setOffByTurn_22 : decode cX0_setOffByTurn 22 = .ok (.getfield 92, 3) := by decide +kernel
theorem dX0_setOffByTurn_25 : decode cX0_setOffByTurn 25 = .ok (.aload_n 0, 1) := by decide +kernel
theorem dX0_setOffByTurn_26 : decode cX0_setOffByTurn 26 = .ok (.getfield 12, 3) := by decide +kernel
theorem dX0_setOffByTurn_29 : decode cX0_setOffByTurn 29 = .ok (.getfield 97, 3) := by decide +kernel
theorem dX0_setOffByTurn_32 : decode cX0_setOffByTurn 32 = .ok (.if_icmp .ne 25, 3) := by decide +kernel
theorem dX0_setOffByTurn_35 : decode cX0_setOffByTurn 35 = .ok (.aload_n 0, 1) := by decide +kernel
theorem dX0_setOffByTurn_36 : decode cX0_setOffByTurn 36 = .ok (.getfield 12, 3) := by decide +kernel
theorem dX0_setOffByTurn_39 : decode cX0_setOffByTurn 39 = .ok (.getfield 88, 3) := by decide +kernel
theorem dX0_setOffByTurn_42 : decode cX0_setOffByTurn 42 = .ok (.iload_n 1, 1) := by decide +kernel
theorem dX0_setOffByTurn_43 : decode cX0_setOffByTurn 43 = .ok (.aaload, 1) := by decide +kernel
theorem dX0_setOffByTurn_44 : decode cX0_setOffByTurn 44 = .ok (.getfield 100, 3) := by decide +kernel
theorem dX0_setOffByTurn_47 : decode cX0_setOffByTurn 47 = .ok (.iconst 2, 1) := by decide +kernel
theorem dX0_setOffByTurn_48 : decode cX0_setOffByTurn 48 = .ok (.if_icmp .ne 9, 3) := by decide +kernel
theorem dX0_setOffByTurn_51 : decode cX0_setOffByTurn 51 = .ok (.aload_n 0, 1) := by decide +kernel
theorem dX0_setOffByTurn_52 : decode cX0_setOffByTurn 52 = .ok (.iload_n 1, 1) := by decide +kernel
theorem dX0_setOffByTurn_53 : decode cX0_setOffByTurn 53 = .ok (.iconst (-1), 1) := by decide +kernel
theorem dX0_setOffByTurn_54 : decode cX0_setOffByTurn 54 = .ok (.invokevirtual 103, 3) := by decide +kernel
theorem dX0_setOffByTurn_57 : decode cX0_setOffByTurn 57 = .ok (.iinc 1 1, 3) := by decide +kernel
theorem dX0_setOffByTurn_60 : decode cX0_setOffByTurn 60 = .ok (.goto (-58), 3) := by decide +kernel
theorem dX0_setOffByTurn_63 : decode cX0_setOffByTurn 63 = .ok (.return_, 1) := by decide +kernel
theorem dX0_setOff_0 : decode cX0_setOff 0 = .ok (.aload_n 0, 1) := by decide +kernel
theorem dX0_setOff_1 : decode cX0_setOff 1 = .ok (.aload_n 0, 1) := by decide +kernel
theorem dX0_setOff_2 : decode cX0_setOff 2 = .ok (.getfield 12, 3) := by decide +kernel
theorem dX0_setOff_5 : decode cX0_setOff 5 = .ok (.getfield 97, 3) := by decide +kernel
theorem dX0_setOff_8 : decode cX0_setOff 8 = .ok (.iload_n 1, 1) := by decide +kernel
theorem dX0_setOff_9 : decode cX0_setOff 9 = .ok (.iload_n 2, 1) := by decide +kernel
theorem dX0_setOff_10 : decode cX0_setOff 10 = .ok (.invokevirtual 106, 3) := by decide +kernel
theorem dX0_setOff_13 : decode cX0_setOff 13 = .ok (.aload_n 0, 1) := by decide +kernel
theorem dX0_setOff_14 : decode cX0_setOff 14 = .ok (.iconst 1, 1) := by decide +kernel
theorem dX0_setOff_15 : decode cX0_setOff 15 = .ok (.aload_n 0, 1) := by decide +kernel
theorem dX0_setOff_16 : decode cX0_setOff 16 = .ok (.getfield 12, 3) := by decide +kernel
theorem dX0_setOff_19 : decode cX0_setOff 19 = .ok (.getfield 97, 3) := by decide +kernel
theorem dX0_setOff_22 : decode cX0_setOff 22 = .ok (.isub, 1) := by decide +kernel
theorem dX0_setOff_23 : decode cX0_setOff 23 = .ok (.iload_n 1, 1) := by decide +kernel
theorem dX0_setOff_24 : decode cX0_setOff 24 = .ok (.iload_n 2, 1) := by decide +kernel
theorem dX0_setOff_25 : decode cX0_setOff 25 = .ok (.invokevirtual 106, 3) := by decide +kernel
theorem dX0_setOff_28 : decode cX0_setOff 28 = .ok (.return_, 1) := by decide +kernel
theorem dX0_setOffOf_0 : decode cX0_setOffOf 0 = .ok (.iconst 0, 1) := by decide +kernel
theorem dX0_setOffOf_1 : decode cX0_setOffOf 1 = .ok (.istore 4, 2) := by decide +kernel
theorem dX0_setOffOf_3 : decode cX0_setOffOf 3 = .ok (.iload 4, 2) := by decide +kernel
theorem dX0_setOffOf_5 : decode cX0_setOffOf 5 = .ok (.aload_n 0, 1) := by decide +kernel
theorem dX0_setOffOf_6 : decode cX0_setOffOf 6 = .ok (.getfield 12, 3) := by decide +kernel
theorem dX0_setOffOf_9 : decode cX0_setOffOf 9 = .ok (.getfield 85, 3) := by decide +kernel
theorem dX0_setOffOf_12 : decode cX0_setOffOf 12 = .ok (.if_icmp .ge 103, 3) := by decide +kernel
theorem dX0_setOffOf_15 : decode cX0_setOffOf 15 = .ok (.aload_n 0, 1) := by decide +kernel
theorem dX0_setOffOf_16 : decode cX0_setOffOf 16 = .ok (.getfield 12, 3) := by decide +kernel
theorem dX0_setOffOf_19 : decode cX0_setOffOf 19 = .ok (.getfield 88, 3) := by decide +kernel
theorem dX0_setOffOf_22 : decode cX0_setOffOf 22 = .ok (.iload 4, 2) := by decide +kernel
theorem dX0_setOffOf_24 : decode cX0_setOffOf 24 = .ok (.aaload, 1) := by decide +kernel
theorem dX0_setOffOf_25 : decode cX0_setOffOf 25 = .ok (.astore 5, 2) := by decide +kernel
theorem dX0_setOffOf_27 : decode cX0_setOffOf 27 = .ok (.aload 5, 2) := by decide +kernel
theorem dX0_setOffOf_29 : decode cX0_setOffOf 29 = .ok (.getfield 92, 3) := by decide +kernel
theorem dX0_setOffOf_32 : decode cX0_setOffOf 32 = .ok (.iload_n 1, 1) := by decide +kernel
theorem dX0_setOffOf_33 : decode cX0_setOffOf 33 = .ok (.if_icmp .ne 76, 3) := by decide +kernel
theorem dX0_setOffOf_36 : decode cX0_setOffOf 36 = .ok (.aload 5, 2) := by decide +kernel
theorem dX0_setOffOf_38 : decode cX0_setOffOf 38 = .ok (.getfield 100, 3) := by decide +kernel
theorem dX0_setOffOf_41 : decode cX0_setOffOf 41 = .ok (.iload_n 2, 1) := by decide +kernel
theorem dX0_setOffOf_42 : decode cX0_setOffOf 42 = .ok (.if_icmp .ne 67, 3) := by decide +kernel
theorem dX0_setOffOf_45 : decode cX0_setOffOf 45 = .ok (.iconst 0, 1) := by decide +kernel
theorem dX0_setOffOf_46 : decode cX0_setOffOf 46 = .ok (.istore 6, 2) := by decide +kernel
theorem dX0_setOffOf_48 : decode cX0_setOffOf 48 = .ok (.iload 6, 2) := by decide +kernel
theorem dX0_setOffOf_50 : decode cX0_setOffOf 50 = .ok (.aload_n 0, 1) := by decide +kernel
theorem dX0_setOffOf_51 : decode cX0_setOffOf 51 = .ok (.getfield 12, 3) := by decide +kernel
theorem dX0_setOffOf_54 : decode cX0_setOffOf 54 = .ok (.getfield 62, 3) := by decide +kernel
theorem dX0_setOffOf_57 : decode cX0_setOffOf 57 = .ok (.if_icmp .ge 52, 3) := by decide +kernel
theorem dX0_setOffOf_60 : decode cX0_setOffOf 60 = .ok (.iload_n 3, 1) := by decide +kernel
theorem dX0_setOffOf_61 : decode cX0_setOffOf 61 = .ok (.iload 6, 2) := by decide +kernel
theorem dX0_setOffOf_63 : decode cX0_setOffOf 63 = .ok (.ishr, 1) := by decide +kernel
theorem dX0_setOffOf_64 : decode cX0_setOffOf 64 = .ok (.iconst 1, 1) := by decide +kernel
theorem dX0_setOffOf_65 : decode cX0_setOffOf 65 = .ok (.iand, 1) := by decide +kernel
theorem dX0_setOffOf_66 : decode cX0_setOffOf 66 = .ok (.ifCond .eq 37, 3) := by decide +kernel
theorem dX0_setOffOf_69 : decode cX0_setOffOf 69 = .ok (.aload_n 0, 1) := by decide +kernel
theorem dX0_setOffOf_70 : decode cX0_setOffOf 70 = .ok (.getfield 21, 3) := by decide +kernel
theorem dX0_setOffOf_73 : decode cX0_setOffOf 73 = .ok (.aload_n 0, 1) := by decide +kernel
theorem dX0_setOffOf_74 : decode cX0_setOffOf 74 = .ok (.getfield 12, 3) := by decide +kernel
theorem dX0_setOffOf_77 : decode cX0_setOffOf 77 = .ok (.iload 6, 2) := by decide +kernel
theorem dX0_setOffOf_79 : decode cX0_setOffOf 79 = .ok (.aload 5, 2) := by decide +kernel
theorem dX0_setOffOf_81 : decode cX0_setOffOf 81 = .ok (.getfield 110, 3) := by decide +kernel
theorem dX0_setOffOf_84 : decode cX0_setOffOf 84 = .ok (.aload 5, 2) := by decide +kernel
theorem dX0_setOffOf_86 : decode cX0_setOffOf 86 = .ok (.getfield 113, 3) := by decide +kernel
theorem dX0_setOffOf_89 : decode cX0_setOffOf 89 = .ok (.invokevirtual 116, 3) := by decide +kernel
theorem dX0_setOffOf_92 : decode cX0_setOffOf 92 = .ok (.ifCond .eq 11, 3) := by decide +kernel
theorem dX0_setOffOf_95 : decode cX0_setOffOf 95 = .ok (.aload_n 0, 1) := by decide +kernel
theorem dX0_setOffOf_96 : decode cX0_setOffOf 96 = .ok (.iload 4, 2) := by decide +kernel
theorem dX0_setOffOf_98 : decode cX0_setOffOf 98 = .ok (.iload 6, 2) := by decide +kernel
theorem dX0_setOffOf_100 : decode cX0_setOffOf 100 = .ok (.invokevirtual 103, 3) := by decide +kernel
theorem dX0_setOffOf_103 : decode cX0_setOffOf 103 = .ok (.iinc 6 1, 3) := by decide +kernel
theorem dX0_setOffOf_106 : decode cX0_setOffOf 106 = .ok (.goto (-58), 3) := by decide +kernel
theorem dX0_setOffOf_109 : decode cX0_setOffOf 109 = .ok (.iinc 4 1, 3) := by decide +kernel
theorem dX0_setOffOf_112 : decode cX0_setOffOf 112 = .ok (.goto (-109), 3) := by decide +kernel
theorem dX0_setOffOf_115 : decode cX0_setOffOf 115 = .ok (.return_, 1) := by decide +kernel
theorem dX0_push_0 : decode cX0_push 0 = .ok (.aload_n 0, 1) := by decide +kernel
theorem dX0_push_1 : decode cX0_push 1 = .ok (.getfield 42, 3) := by decide +kernel
theorem dX0_push_4 : decode cX0_push 4 = .ok (.ifCond .lt 43, 3) := by decide +kernel
theorem dX0_push_7 : decode cX0_push 7 = .ok (.aload_n 0, 1) := by decide +kernel
theorem dX0_push_8 : decode cX0_push 8 = .ok (.getfield 42, 3) := by decide +kernel
theorem dX0_push_11 : decode cX0_push 11 = .ok (.sipush 400, 3) := by decide +kernel
theorem dX0_push_14 : decode cX0_push 14 = .ok (.if_icmp .ge 33, 3) := by decide +kernel
theorem dX0_push_17 : decode cX0_push 17 = .ok (.aload_n 0, 1) := by decide +kernel
theorem dX0_push_18 : decode cX0_push 18 = .ok (.getfield 32, 3) := by decide +kernel
theorem dX0_push_21 : decode cX0_push 21 = .ok (.aload_n 0, 1) := by decide +kernel
theorem dX0_push_22 : decode cX0_push 22 = .ok (.getfield 42, 3) := by decide +kernel
theorem dX0_push_25 : decode cX0_push 25 = .ok (.iload_n 1, 1) := by decide +kernel
theorem dX0_push_26 : decode cX0_push 26 = .ok (.iastore, 1) := by decide +kernel
theorem dX0_push_27 : decode cX0_push 27 = .ok (.aload_n 0, 1) := by decide +kernel
theorem dX0_push_28 : decode cX0_push 28 = .ok (.getfield 36, 3) := by decide +kernel
theorem dX0_push_31 : decode cX0_push 31 = .ok (.aload_n 0, 1) := by decide +kernel
theorem dX0_push_32 : decode cX0_push 32 = .ok (.getfield 42, 3) := by decide +kernel
theorem dX0_push_35 : decode cX0_push 35 = .ok (.iload_n 2, 1) := by decide +kernel
theorem dX0_push_36 : decode cX0_push 36 = .ok (.iastore, 1) := by decide +kernel
theorem dX0_push_37 : decode cX0_push 37 = .ok (.aload_n 0, 1) := by decide +kernel
theorem dX0_push_38 : decode cX0_push 38 = .ok (.dup, 1) := by decide +kernel
theorem dX0_push_39 : decode cX0_push 39 = .ok (.getfield 42, 3) := by decide +kernel
theorem dX0_push_42 : decode cX0_push 42 = .ok (.iconst 1, 1) := by decide +kernel
theorem dX0_push_43 : decode cX0_push 43 = .ok (.iadd, 1) := by decide +kernel
theorem dX0_push_44 : decode cX0_push 44 = .ok (.putfield 42, 3) := by decide +kernel
theorem dX0_push_47 : decode cX0_push 47 = .ok (.return_, 1) := by decide +kernel
theorem dX0_strike_0 : decode cX0_strike 0 = .ok (.aload_n 0, 1) := by decide +kernel
theorem dX0_strike_1 : decode cX0_strike 1 = .ok (.getfield 28, 3) := by decide +kernel
theorem dX0_strike_4 : decode cX0_strike 4 = .ok (.aload_n 0, 1) := by decide +kernel
theorem dX0_strike_5 : decode cX0_strike 5 = .ok (.getfield 12, 3) := by decide +kernel
theorem dX0_strike_8 : decode cX0_strike 8 = .ok (.aload_n 0, 1) := by decide +kernel
theorem dX0_strike_9 : decode cX0_strike 9 = .ok (.getfield 21, 3) := by decide +kernel
theorem dX0_strike_12 : decode cX0_strike 12 = .ok (.iload_n 1, 1) := by decide +kernel
theorem dX0_strike_13 : decode cX0_strike 13 = .ok (.iload_n 2, 1) := by decide +kernel
theorem dX0_strike_14 : decode cX0_strike 14 = .ok (.invokevirtual 120, 3) := by decide +kernel
theorem dX0_strike_17 : decode cX0_strike 17 = .ok (.aload_n 0, 1) := by decide +kernel
theorem dX0_strike_18 : decode cX0_strike 18 = .ok (.invokevirtual 124, 3) := by decide +kernel
theorem dX0_strike_21 : decode cX0_strike 21 = .ok (.aload_n 0, 1) := by decide +kernel
theorem dX0_strike_22 : decode cX0_strike 22 = .ok (.getfield 12, 3) := by decide +kernel
theorem dX0_strike_25 : decode cX0_strike 25 = .ok (.aload_n 0, 1) := by decide +kernel
theorem dX0_strike_26 : decode cX0_strike 26 = .ok (.getfield 28, 3) := by decide +kernel
theorem dX0_strike_29 : decode cX0_strike 29 = .ok (.getfield 127, 3) := by decide +kernel
theorem dX0_strike_32 : decode cX0_strike 32 = .ok (.invokevirtual 130, 3) := by decide +kernel
theorem dX0_strike_35 : decode cX0_strike 35 = .ok (.ifCond .ne 4, 3) := by decide +kernel
theorem dX0_strike_38 : decode cX0_strike 38 = .ok (.return_, 1) := by decide +kernel
theorem dX0_strike_39 : decode cX0_strike 39 = .ok (.aload_n 0, 1) := by decide +kernel
theorem dX0_strike_40 : decode cX0_strike 40 = .ok (.getfield 12, 3) := by decide +kernel
theorem dX0_strike_43 : decode cX0_strike 43 = .ok (.getfield 65, 3) := by decide +kernel
theorem dX0_strike_46 : decode cX0_strike 46 = .ok (.aload_n 0, 1) := by decide +kernel
theorem dX0_strike_47 : decode cX0_strike 47 = .ok (.getfield 28, 3) := by decide +kernel
theorem dX0_strike_50 : decode cX0_strike 50 = .ok (.getfield 127, 3) := by decide +kernel
theorem dX0_strike_53 : decode cX0_strike 53 = .ok (.aaload, 1) := by decide +kernel
theorem dX0_strike_54 : decode cX0_strike 54 = .ok (.astore_n 3, 1) := by decide +kernel
theorem dX0_strike_55 : decode cX0_strike 55 = .ok (.aload_n 0, 1) := by decide +kernel
theorem dX0_strike_56 : decode cX0_strike 56 = .ok (.getfield 28, 3) := by decide +kernel
theorem dX0_strike_59 : decode cX0_strike 59 = .ok (.getfield 134, 3) := by decide +kernel
theorem dX0_strike_62 : decode cX0_strike 62 = .ok (.ifCond .eq 17, 3) := by decide +kernel
theorem dX0_strike_65 : decode cX0_strike 65 = .ok (.aload_n 3, 1) := by decide +kernel
theorem dX0_strike_66 : decode cX0_strike 66 = .ok (.aload_n 0, 1) := by decide +kernel
theorem dX0_strike_67 : decode cX0_strike 67 = .ok (.getfield 28, 3) := by decide +kernel
theorem dX0_strike_70 : decode cX0_strike 70 = .ok (.getfield 137, 3) := by decide +kernel
theorem dX0_strike_73 : decode cX0_strike 73 = .ok (.invokevirtual 140, 3) := by decide +kernel
theorem dX0_strike_76 : decode cX0_strike 76 = .ok (.goto 49, 3) := by decide +kernel
theorem dX0_strike_79 : decode cX0_strike 79 = .ok (.aload_n 0, 1) := by decide +kernel
theorem dX0_strike_80 : decode cX0_strike 80 = .ok (.getfield 28, 3) := by decide +kernel
theorem dX0_strike_83 : decode cX0_strike 83 = .ok (.getfield 137, 3) := by decide +kernel
theorem dX0_strike_86 : decode cX0_strike 86 = .ok (.ifCond .le 39, 3) := by decide +kernel
theorem dX0_strike_89 : decode cX0_strike 89 = .ok (.aload_n 3, 1) := by decide +kernel
theorem dX0_strike_90 : decode cX0_strike 90 = .ok (.sipush 999, 3) := by decide +kernel
theorem dX0_strike_93 : decode cX0_strike 93 = .ok (.aload_n 3, 1) := by decide +kernel
theorem dX0_strike_94 : decode cX0_strike 94 = .ok (.getfield 75, 3) := by decide +kernel
theorem dX0_strike_97 : decode cX0_strike 97 = .ok (.aload_n 0, 1) := by decide +kernel
theorem dX0_strike_98 : decode cX0_strike 98 = .ok (.getfield 28, 3) := by decide +kernel
theorem dX0_strike_101 : decode cX0_strike 101 = .ok (.getfield 137, 3) := by decide +kernel
theorem dX0_strike_104 : decode cX0_strike 104 = .ok (.iadd, 1) := by decide +kernel
theorem dX0_strike_105 : decode cX0_strike 105 = .ok (.invokestatic 143, 3) := by decide +kernel
theorem dX0_strike_108 : decode cX0_strike 108 = .ok (.putfield 75, 3) := by decide +kernel
theorem dX0_strike_111 : decode cX0_strike 111 = .ok (.aload_n 0, 1) := by decide +kernel
theorem dX0_strike_112 : decode cX0_strike 112 = .ok (.iconst 0, 1) := by decide +kernel
theorem dX0_strike_113 : decode cX0_strike 113 = .ok (.iconst 1, 1) := by decide +kernel
theorem dX0_strike_114 : decode cX0_strike 114 = .ok (.aload_n 0, 1) := by decide +kernel
theorem dX0_strike_115 : decode cX0_strike 115 = .ok (.getfield 28, 3) := by decide +kernel
theorem dX0_strike_118 : decode cX0_strike 118 = .ok (.getfield 127, 3) := by decide +kernel
theorem dX0_strike_121 : decode cX0_strike 121 = .ok (.ishl, 1) := by decide +kernel
theorem dX0_strike_122 : decode cX0_strike 122 = .ok (.invokevirtual 54, 3) := by decide +kernel
theorem dX0_strike_125 : decode cX0_strike 125 = .ok (.return_, 1) := by decide +kernel
theorem dX0_spendRules_0 : decode cX0_spendRules 0 = .ok (.aload_n 0, 1) := by decide +kernel
theorem dX0_spendRules_1 : decode cX0_spendRules 1 = .ok (.getfield 12, 3) := by decide +kernel
theorem dX0_spendRules_4 : decode cX0_spendRules 4 = .ok (.getfield 149, 3) := by decide +kernel
theorem dX0_spendRules_7 : decode cX0_spendRules 7 = .ok (.iconst 1, 1) := by decide +kernel
theorem dX0_spendRules_8 : decode cX0_spendRules 8 = .ok (.isub, 1) := by decide +kernel
theorem dX0_spendRules_9 : decode cX0_spendRules 9 = .ok (.istore_n 1, 1) := by decide +kernel
theorem dX0_spendRules_10 : decode cX0_spendRules 10 = .ok (.iload_n 1, 1) := by decide +kernel
theorem dX0_spendRules_11 : decode cX0_spendRules 11 = .ok (.ifCond .lt 73, 3) := by decide +kernel
theorem dX0_spendRules_14 : decode cX0_spendRules 14 = .ok (.aload_n 0, 1) := by decide +kernel
theorem dX0_spendRules_15 : decode cX0_spendRules 15 = .ok (.getfield 12, 3) := by decide +kernel
theorem dX0_spendRules_18 : decode cX0_spendRules 18 = .ok (.getfield 152, 3) := by decide +kernel
theorem dX0_spendRules_21 : decode cX0_spendRules 21 = .ok (.iload_n 1, 1) := by decide +kernel
theorem dX0_spendRules_22 : decode cX0_spendRules 22 = .ok (.aaload, 1) := by decide +kernel
theorem dX0_spendRules_23 : decode cX0_spendRules 23 = .ok (.astore_n 2, 1) := by decide +kernel
theorem dX0_spendRules_24 : decode cX0_spendRules 24 = .ok (.aload_n 2, 1) := by decide +kernel
theorem dX0_spendRules_25 : decode cX0_spendRules 25 = .ok (.getfield 156, 3) := by decide +kernel
theorem dX0_spendRules_28 : decode cX0_spendRules 28 = .ok (.ifCond .ne 50, 3) := by decide +kernel
theorem dX0_spendRules_31 : decode cX0_spendRules 31 = .ok (.aload_n 0, 1) := by decide +kernel
theorem dX0_spendRules_32 : decode cX0_spendRules 32 = .ok (.getfield 28, 3) := by decide +kernel
theorem dX0_spendRules_35 : decode cX0_spendRules 35 = .ok (.getfield 161, 3) := by decide +kernel
theorem dX0_spendRules_38 : decode cX0_spendRules 38 = .ok (.iload_n 1, 1) := by decide +kernel
theorem dX0_spendRules_39 : decode cX0_spendRules 39 = .ok (.ishr, 1) := by decide +kernel
theorem dX0_spendRules_40 : decode cX0_spendRules 40 = .ok (.iconst 1, 1) := by decide +kernel
theorem dX0_spendRules_41 : decode cX0_spendRules 41 = .ok (.iand, 1) := by decide +kernel
theorem dX0_spendRules_42 : decode cX0_spendRules 42 = .ok (.ifCond .eq 36, 3) := by decide +kernel
theorem dX0_spendRules_45 : decode cX0_spendRules 45 = .ok (.aload_n 2, 1) := by decide +kernel
theorem dX0_spendRules_46 : decode cX0_spendRules 46 = .ok (.dup, 1) := by decide +kernel
theorem dX0_spendRules_47 : decode cX0_spendRules 47 = .ok (.getfield 164, 3) := by decide +kernel
theorem dX0_spendRules_50 : decode cX0_spendRules 50 = .ok (.aload_n 0, 1) := by decide +kernel
theorem dX0_spendRules_51 : decode cX0_spendRules 51 = .ok (.getfield 28, 3) := by decide +kernel
theorem dX0_spendRules_54 : decode cX0_spendRules 54 = .ok (.getfield 167, 3) := by decide +kernel
theorem dX0_spendRules_57 : decode cX0_spendRules 57 = .ok (.iload_n 1, 1) := by decide +kernel
theorem dX0_spendRules_58 : decode cX0_spendRules 58 = .ok (.iaload, 1) := by decide +kernel
theorem dX0_spendRules_59 : decode cX0_spendRules 59 = .ok (.isub, 1) := by decide +kernel
theorem dX0_spendRules_60 : decode cX0_spendRules 60 = .ok (.putfield 164, 3) := by decide +kernel
theorem dX0_spendRules_63 : decode cX0_spendRules 63 = .ok (.aload_n 2, 1) := by decide +kernel
theorem dX0_spendRules_64 : decode cX0_spendRules 64 = .ok (.getfield 164, 3) := by decide +kernel
theorem dX0_spendRules_67 : decode cX0_spendRules 67 = .ok (.ifCond .gt 11, 3) := by decide +kernel
theorem dX0_spendRules_70 : decode cX0_spendRules 70 = .ok (.aload_n 0, 1) := by decide +kernel
theorem dX0_spendRules_71 : decode cX0_spendRules 71 = .ok (.getfield 12, 3) := by decide +kernel
theorem dX0_spendRules_74 : decode cX0_spendRules 74 = .ok (.iload_n 1, 1) := by decide +kernel
theorem dX0_spendRules_75 : decode cX0_spendRules 75 = .ok (.invokevirtual 170, 3) := by decide +kernel
theorem dX0_spendRules_78 : decode cX0_spendRules 78 = .ok (.iinc 1 (-1), 3) := by decide +kernel
theorem dX0_spendRules_81 : decode cX0_spendRules 81 = .ok (.goto (-71), 3) := by decide +kernel
theorem dX0_spendRules_84 : decode cX0_spendRules 84 = .ok (.return_, 1) := by decide +kernel
theorem dX0_finish_0 : decode cX0_finish 0 = .ok (.aload_n 0, 1) := by decide +kernel
theorem dX0_finish_1 : decode cX0_finish 1 = .ok (.iconst 1, 1) := by decide +kernel
theorem dX0_finish_2 : decode cX0_finish 2 = .ok (.invokevirtual 173, 3) := by decide +kernel
theorem dX0_finish_5 : decode cX0_finish 5 = .ok (.iconst 0, 1) := by decide +kernel
theorem dX0_finish_6 : decode cX0_finish 6 = .ok (.istore_n 1, 1) := by decide +kernel
theorem dX0_finish_7 : decode cX0_finish 7 = .ok (.iconst 0, 1) := by decide +kernel
theorem dX0_finish_8 : decode cX0_finish 8 = .ok (.istore_n 2, 1) := by decide +kernel
theorem dX0_finish_9 : decode cX0_finish 9 = .ok (.iload_n 2, 1) := by decide +kernel
theorem dX0_finish_10 : decode cX0_finish 10 = .ok (.bipush 40, 2) := by decide +kernel
theorem dX0_finish_12 : decode cX0_finish 12 = .ok (.if_icmp .ge 78, 3) := by decide +kernel
theorem dX0_finish_15 : decode cX0_finish 15 = .ok (.aload_n 0, 1) := by decide +kernel
theorem dX0_finish_16 : decode cX0_finish 16 = .ok (.getfield 42, 3) := by decide +kernel
theorem dX0_finish_19 : decode cX0_finish 19 = .ok (.iconst 1, 1) := by decide +kernel
theorem dX0_finish_20 : decode cX0_finish 20 = .ok (.sipush 400, 3) := by decide +kernel
theorem dX0_finish_23 : decode cX0_finish 23 = .ok (.invokestatic 177, 3) := by decide +kernel
theorem dX0_finish_26 : decode cX0_finish 26 = .ok (.ifCond .eq 64, 3) := by decide +kernel
theorem dX0_finish_29 : decode cX0_finish 29 = .ok (.aload_n 0, 1) := by decide +kernel
theorem dX0_finish_30 : decode cX0_finish 30 = .ok (.dup, 1) := by decide +kernel
theorem dX0_finish_31 : decode cX0_finish 31 = .ok (.getfield 42, 3) := by decide +kernel
theorem dX0_finish_34 : decode cX0_finish 34 = .ok (.iconst 1, 1) := by decide +kernel
theorem dX0_finish_35 : decode cX0_finish 35 = .ok (.isub, 1) := by decide +kernel
theorem dX0_finish_36 : decode cX0_finish 36 = .ok (.putfield 42, 3) := by decide +kernel
theorem dX0_finish_39 : decode cX0_finish 39 = .ok (.aload_n 0, 1) := by decide +kernel
theorem dX0_finish_40 : decode cX0_finish 40 = .ok (.getfield 39, 3) := by decide +kernel
theorem dX0_finish_43 : decode cX0_finish 43 = .ok (.iload_n 2, 1) := by decide +kernel
theorem dX0_finish_44 : decode cX0_finish 44 = .ok (.aload_n 0, 1) := by decide +kernel
theorem dX0_finish_45 : decode cX0_finish 45 = .ok (.getfield 32, 3) := by decide +kernel
theorem dX0_finish_48 : decode cX0_finish 48 = .ok (.aload_n 0, 1) := by decide +kernel
theorem dX0_finish_49 : decode cX0_finish 49 = .ok (.getfield 42, 3) := by decide +kernel
theorem dX0_finish_52 : decode cX0_finish 52 = .ok (.iaload, 1) := by decide +kernel
theorem dX0_finish_53 : decode cX0_finish 53 = .ok (.iastore, 1) := by decide +kernel
theorem dX0_finish_54 : decode cX0_finish 54 = .ok (.aload_n 0, 1) := by decide +kernel
theorem dX0_finish_55 : decode cX0_finish 55 = .ok (.aload_n 0, 1) := by decide +kernel
