theorem dX6_init_0 : decode cX6_init 0 = .ok (.aload_n 0, 1) := by decide +kernel
theorem dX6_init_1 : decode cX6_init 1 = .ok (.invokespecial 3, 3) := by decide +kernel
theorem dX6_init_4 : decode cX6_init 4 = .ok (.return_, 1) := by decide +kernel
theorem dX6_become_0 : decode cX6_become 0 = .ok (.aload_n 0, 1) := by decide +kernel
theorem dX6_become_1 : decode cX6_become 1 = .ok (.iload_n 1, 1) := by decide +kernel
theorem dX6_become_2 : decode cX6_become 2 = .ok (.putfield 9, 3) := by decide +kernel
theorem dX6_become_5 : decode cX6_become 5 = .ok (.aload_n 0, 1) := by decide +kernel
theorem dX6_become_6 : decode cX6_become 6 = .ok (.iload_n 2, 1) := by decide +kernel
theorem dX6_become_7 : decode cX6_become 7 = .ok (.putfield 15, 3) := by decide +kernel
theorem dX6_become_10 : decode cX6_become 10 = .ok (.aload_n 0, 1) := by decide +kernel
theorem dX6_become_11 : decode cX6_become 11 = .ok (.iload_n 3, 1) := by decide +kernel
theorem dX6_become_12 : decode cX6_become 12 = .ok (.putfield 18, 3) := by decide +kernel
theorem dX6_become_15 : decode cX6_become 15 = .ok (.aload_n 0, 1) := by decide +kernel
theorem dX6_become_16 : decode cX6_become 16 = .ok (.iload 4, 2) := by decide +kernel
theorem dX6_become_18 : decode cX6_become 18 = .ok (.putfield 21, 3) := by decide +kernel
theorem dX6_become_21 : decode cX6_become 21 = .ok (.aload_n 0, 1) := by decide +kernel
theorem dX6_become_22 : decode cX6_become 22 = .ok (.iconst 0, 1) := by decide +kernel
theorem dX6_become_23 : decode cX6_become 23 = .ok (.putfield 24, 3) := by decide +kernel
theorem dX6_become_26 : decode cX6_become 26 = .ok (.aload_n 0, 1) := by decide +kernel
theorem dX6_become_27 : decode cX6_become 27 = .ok (.iconst 1, 1) := by decide +kernel
theorem dX6_become_28 : decode cX6_become 28 = .ok (.putfield 27, 3) := by decide +kernel
theorem dX6_become_31 : decode cX6_become 31 = .ok (.aload_n 0, 1) := by decide +kernel
theorem dX6_become_32 : decode cX6_become 32 = .ok (.iconst 0, 1) := by decide +kernel
theorem dX6_become_33 : decode cX6_become 33 = .ok (.putfield 31, 3) := by decide +kernel
theorem dX6_become_36 : decode cX6_become 36 = .ok (.aload_n 0, 1) := by decide +kernel
theorem dX6_become_37 : decode cX6_become 37 = .ok (.iconst 0, 1) := by decide +kernel
theorem dX6_become_38 : decode cX6_become 38 = .ok (.putfield 34, 3) := by decide +kernel
theorem dX6_become_41 : decode cX6_become 41 = .ok (.aload_n 0, 1) := by decide +kernel
theorem dX6_become_42 : decode cX6_become 42 = .ok (.iconst 0, 1) := by decide +kernel
theorem dX6_become_43 : decode cX6_become 43 = .ok (.putfield 37, 3) := by decide +kernel
theorem dX6_become_46 : decode cX6_become 46 = .ok (.aload_n 0, 1) := by decide +kernel
theorem dX6_become_47 : decode cX6_become 47 = .ok (.iconst 0, 1) := by decide +kernel
theorem dX6_become_48 : decode cX6_become 48 = .ok (.putfield 40, 3) := by decide +kernel
theorem dX6_become_51 : decode cX6_become 51 = .ok (.return_, 1) := by decide +kernel
theorem dX6_change_0 : decode cX6_change 0 = .ok (.iload_n 1, 1) := by decide +kernel
theorem dX6_change_1 : decode cX6_change 1 = .ok (.tableswitch 63 1 3 #[27, 39, 51], 27) := by decide +kernel
theorem dX6_change_28 : decode cX6_change 28 = .ok (.aload_n 0, 1) := by decide +kernel
theorem dX6_change_29 : decode cX6_change 29 = .ok (.getfield 15, 3) := by decide +kernel
theorem dX6_change_32 : decode cX6_change 32 = .ok (.istore_n 3, 1) := by decide +kernel
theorem dX6_change_33 : decode cX6_change 33 = .ok (.aload_n 0, 1) := by decide +kernel
theorem dX6_change_34 : decode cX6_change 34 = .ok (.iload_n 2, 1) := by decide +kernel
theorem dX6_change_35 : decode cX6_change 35 = .ok (.putfield 15, 3) := by decide +kernel
theorem dX6_change_38 : decode cX6_change 38 = .ok (.iload_n 3, 1) := by decide +kernel
theorem dX6_change_39 : decode cX6_change 39 = .ok (.ireturn, 1) := by decide +kernel
theorem dX6_change_40 : decode cX6_change 40 = .ok (.aload_n 0, 1) := by decide +kernel
theorem dX6_change_41 : decode cX6_change 41 = .ok (.getfield 18, 3) := by decide +kernel
theorem dX6_change_44 : decode cX6_change 44 = .ok (.istore_n 3, 1) := by decide +kernel
theorem dX6_change_45 : decode cX6_change 45 = .ok (.aload_n 0, 1) := by decide +kernel
theorem dX6_change_46 : decode cX6_change 46 = .ok (.iload_n 2, 1) := by decide +kernel
theorem dX6_change_47 : decode cX6_change 47 = .ok (.putfield 18, 3) := by decide +kernel
theorem dX6_change_50 : decode cX6_change 50 = .ok (.iload_n 3, 1) := by decide +kernel
theorem dX6_change_51 : decode cX6_change 51 = .ok (.ireturn, 1) := by decide +kernel
theorem dX6_change_52 : decode cX6_change 52 = .ok (.aload_n 0, 1) := by decide +kernel
theorem dX6_change_53 : decode cX6_change 53 = .ok (.getfield 21, 3) := by decide +kernel
theorem dX6_change_56 : decode cX6_change 56 = .ok (.istore_n 3, 1) := by decide +kernel
theorem dX6_change_57 : decode cX6_change 57 = .ok (.aload_n 0, 1) := by decide +kernel
theorem dX6_change_58 : decode cX6_change 58 = .ok (.iload_n 2, 1) := by decide +kernel
theorem dX6_change_59 : decode cX6_change 59 = .ok (.putfield 21, 3) := by decide +kernel
theorem dX6_change_62 : decode cX6_change 62 = .ok (.iload_n 3, 1) := by decide +kernel
theorem dX6_change_63 : decode cX6_change 63 = .ok (.ireturn, 1) := by decide +kernel
theorem dX6_change_64 : decode cX6_change 64 = .ok (.aload_n 0, 1) := by decide +kernel
theorem dX6_change_65 : decode cX6_change 65 = .ok (.getfield 24, 3) := by decide +kernel
theorem dX6_change_68 : decode cX6_change 68 = .ok (.istore_n 3, 1) := by decide +kernel
theorem dX6_change_69 : decode cX6_change 69 = .ok (.aload_n 0, 1) := by decide +kernel
theorem dX6_change_70 : decode cX6_change 70 = .ok (.iload_n 2, 1) := by decide +kernel
theorem dX6_change_71 : decode cX6_change 71 = .ok (.putfield 24, 3) := by decide +kernel
theorem dX6_change_74 : decode cX6_change 74 = .ok (.iload_n 3, 1) := by decide +kernel
theorem dX6_change_75 : decode cX6_change 75 = .ok (.ireturn, 1) := by decide +kernel
theorem dX6_heal_0 : decode cX6_heal 0 = .ok (.aload_n 0, 1) := by decide +kernel
theorem dX6_heal_1 : decode cX6_heal 1 = .ok (.iconst 0, 1) := by decide +kernel
theorem dX6_heal_2 : decode cX6_heal 2 = .ok (.aload_n 0, 1) := by decide +kernel
theorem dX6_heal_3 : decode cX6_heal 3 = .ok (.getfield 24, 3) := by decide +kernel
theorem dX6_heal_6 : decode cX6_heal 6 = .ok (.iload_n 1, 1) := by decide +kernel
theorem dX6_heal_7 : decode cX6_heal 7 = .ok (.isub, 1) := by decide +kernel
theorem dX6_heal_8 : decode cX6_heal 8 = .ok (.invokestatic 43, 3) := by decide +kernel
theorem dX6_heal_11 : decode cX6_heal 11 = .ok (.putfield 24, 3) := by decide +kernel
theorem dX6_heal_14 : decode cX6_heal 14 = .ok (.return_, 1) := by decide +kernel
theorem dX6_raise_0 : decode cX6_raise 0 = .ok (.aload_n 0, 1) := by decide +kernel
theorem dX6_raise_1 : decode cX6_raise 1 = .ok (.bipush 99, 2) := by decide +kernel
theorem dX6_raise_3 : decode cX6_raise 3 = .ok (.aload_n 0, 1) := by decide +kernel
theorem dX6_raise_4 : decode cX6_raise 4 = .ok (.getfield 18, 3) := by decide +kernel
theorem dX6_raise_7 : decode cX6_raise 7 = .ok (.iload_n 1, 1) := by decide +kernel
theorem dX6_raise_8 : decode cX6_raise 8 = .ok (.iadd, 1) := by decide +kernel
theorem dX6_raise_9 : decode cX6_raise 9 = .ok (.invokestatic 49, 3) := by decide +kernel
theorem dX6_raise_12 : decode cX6_raise 12 = .ok (.putfield 18, 3) := by decide +kernel
theorem dX6_raise_15 : decode cX6_raise 15 = .ok (.aload_n 0, 1) := by decide +kernel
theorem dX6_raise_16 : decode cX6_raise 16 = .ok (.bipush 99, 2) := by decide +kernel
theorem dX6_raise_18 : decode cX6_raise 18 = .ok (.aload_n 0, 1) := by decide +kernel
theorem dX6_raise_19 : decode cX6_raise 19 = .ok (.getfield 21, 3) := by decide +kernel
theorem dX6_raise_22 : decode cX6_raise 22 = .ok (.iload_n 1, 1) := by decide +kernel
theorem dX6_raise_23 : decode cX6_raise 23 = .ok (.iadd, 1) := by decide +kernel
theorem dX6_raise_24 : decode cX6_raise 24 = .ok (.invokestatic 49, 3) := by decide +kernel
theorem dX6_raise_27 : decode cX6_raise 27 = .ok (.putfield 21, 3) := by decide +kernel
theorem dX6_raise_30 : decode cX6_raise 30 = .ok (.return_, 1) := by decide +kernel
theorem dX6_copyFrom_0 : decode cX6_copyFrom 0 = .ok (.aload_n 0, 1) := by decide +kernel
theorem dX6_copyFrom_1 : decode cX6_copyFrom 1 = .ok (.aload_n 1, 1) := by decide +kernel
theorem dX6_copyFrom_2 : decode cX6_copyFrom 2 = .ok (.getfield 9, 3) := by decide +kernel
theorem dX6_copyFrom_5 : decode cX6_copyFrom 5 = .ok (.putfield 9, 3) := by decide +kernel
theorem dX6_copyFrom_8 : decode cX6_copyFrom 8 = .ok (.aload_n 0, 1) := by decide +kernel
theorem dX6_copyFrom_9 : decode cX6_copyFrom 9 = .ok (.aload_n 1, 1) := by decide +kernel
theorem dX6_copyFrom_10 : decode cX6_copyFrom 10 = .ok (.getfield 15, 3) := by decide +kernel
theorem dX6_copyFrom_13 : decode cX6_copyFrom 13 = .ok (.putfield 15, 3) := by decide +kernel
theorem dX6_copyFrom_16 : decode cX6_copyFrom 16 = .ok (.aload_n 0, 1) := by decide +kernel
theorem dX6_copyFrom_17 : decode cX6_copyFrom 17 = .ok (.aload_n 1, 1) := by decide +kernel
theorem dX6_copyFrom_18 : decode cX6_copyFrom 18 = .ok (.getfield 18, 3) := by decide +kernel
theorem dX6_copyFrom_21 : decode cX6_copyFrom 21 = .ok (.putfield 18, 3) := by decide +kernel
theorem dX6_copyFrom_24 : decode cX6_copyFrom 24 = .ok (.aload_n 0, 1) := by decide +kernel
theorem dX6_copyFrom_25 : decode cX6_copyFrom 25 = .ok (.aload_n 1, 1) := by decide +kernel
theorem dX6_copyFrom_26 : decode cX6_copyFrom 26 = .ok (.getfield 21, 3) := by decide +kernel
theorem dX6_copyFrom_29 : decode cX6_copyFrom 29 = .ok (.putfield 21, 3) := by decide +kernel
theorem dX6_copyFrom_32 : decode cX6_copyFrom 32 = .ok (.aload_n 0, 1) := by decide +kernel
theorem dX6_copyFrom_33 : decode cX6_copyFrom 33 = .ok (.aload_n 1, 1) := by decide +kernel
theorem dX6_copyFrom_34 : decode cX6_copyFrom 34 = .ok (.getfield 24, 3) := by decide +kernel
theorem dX6_copyFrom_37 : decode cX6_copyFrom 37 = .ok (.putfield 24, 3) := by decide +kernel
theorem dX6_copyFrom_40 : decode cX6_copyFrom 40 = .ok (.aload_n 0, 1) := by decide +kernel
theorem dX6_copyFrom_41 : decode cX6_copyFrom 41 = .ok (.aload_n 1, 1) := by decide +kernel
theorem dX6_copyFrom_42 : decode cX6_copyFrom 42 = .ok (.getfield 27, 3) := by decide +kernel
theorem dX6_copyFrom_45 : decode cX6_copyFrom 45 = .ok (.putfield 27, 3) := by decide +kernel
theorem dX6_copyFrom_48 : decode cX6_copyFrom 48 = .ok (.aload_n 0, 1) := by decide +kernel
theorem dX6_copyFrom_49 : decode cX6_copyFrom 49 = .ok (.aload_n 1, 1) := by decide +kernel
theorem dX6_copyFrom_50 : decode cX6_copyFrom 50 = .ok (.getfield 31, 3) := by decide +kernel
theorem dX6_copyFrom_53 : decode cX6_copyFrom 53 = .ok (.putfield 31, 3) := by decide +kernel
theorem dX6_copyFrom_56 : decode cX6_copyFrom 56 = .ok (.aload_n 0, 1) := by decide +kernel
theorem dX6_copyFrom_57 : decode cX6_copyFrom 57 = .ok (.aload_n 1, 1) := by decide +kernel
theorem dX6_copyFrom_58 : decode cX6_copyFrom 58 = .ok (.getfield 34, 3) := by decide +kernel
theorem dX6_copyFrom_61 : decode cX6_copyFrom 61 = .ok (.putfield 34, 3) := by decide +kernel
theorem dX6_copyFrom_64 : decode cX6_copyFrom 64 = .ok (.aload_n 0, 1) := by decide +kernel
theorem dX6_copyFrom_65 : decode cX6_copyFrom 65 = .ok (.aload_n 1, 1) := by decide +kernel
theorem dX6_copyFrom_66 : decode cX6_copyFrom 66 = .ok (.getfield 37, 3) := by decide +kernel
theorem dX6_copyFrom_69 : decode cX6_copyFrom 69 = .ok (.putfield 37, 3) := by decide +kernel
theorem dX6_copyFrom_72 : decode cX6_copyFrom 72 = .ok (.aload_n 0, 1) := by decide +kernel
theorem dX6_copyFrom_73 : decode cX6_copyFrom 73 = .ok (.aload_n 1, 1) := by decide +kernel
theorem dX6_copyFrom_74 : decode cX6_copyFrom 74 = .ok (.getfield 40, 3) := by decide +kernel
theorem dX6_copyFrom_77 : decode cX6_copyFrom 77 = .ok (.putfield 40, 3) := by decide +kernel
theorem dX6_copyFrom_80 : decode cX6_copyFrom 80 = .ok (.return_, 1) := by decide +kernel
