theorem dX8_dropEffect_53 : decode cX8_dropEffect 53 = .ok (.iconst 1, 1) := by decide +kernel
theorem dX8_dropEffect_54 : decode cX8_dropEffect 54 = .ok (.isub, 1) := by decide +kernel
theorem dX8_dropEffect_55 : decode cX8_dropEffect 55 = .ok (.putfield 50, 3) := by decide +kernel
theorem dX8_dropEffect_58 : decode cX8_dropEffect 58 = .ok (.aload_n 0, 1) := by decide +kernel
theorem dX8_dropEffect_59 : decode cX8_dropEffect 59 = .ok (.getfield 19, 3) := by decide +kernel
theorem dX8_dropEffect_62 : decode cX8_dropEffect 62 = .ok (.aload_n 0, 1) := by decide +kernel
theorem dX8_dropEffect_63 : decode cX8_dropEffect 63 = .ok (.getfield 50, 3) := by decide +kernel
theorem dX8_dropEffect_66 : decode cX8_dropEffect 66 = .ok (.aload_n 2, 1) := by decide +kernel
theorem dX8_dropEffect_67 : decode cX8_dropEffect 67 = .ok (.aastore, 1) := by decide +kernel
theorem dX8_dropEffect_68 : decode cX8_dropEffect 68 = .ok (.return_, 1) := by decide +kernel
theorem dX8_dropRule_0 : decode cX8_dropRule 0 = .ok (.aload_n 0, 1) := by decide +kernel
theorem dX8_dropRule_1 : decode cX8_dropRule 1 = .ok (.iload_n 1, 1) := by decide +kernel
theorem dX8_dropRule_2 : decode cX8_dropRule 2 = .ok (.invokevirtual 105, 3) := by decide +kernel
theorem dX8_dropRule_5 : decode cX8_dropRule 5 = .ok (.ifCond .ne 4, 3) := by decide +kernel
theorem dX8_dropRule_8 : decode cX8_dropRule 8 = .ok (.return_, 1) := by decide +kernel
theorem dX8_dropRule_9 : decode cX8_dropRule 9 = .ok (.aload_n 0, 1) := by decide +kernel
theorem dX8_dropRule_10 : decode cX8_dropRule 10 = .ok (.getfield 25, 3) := by decide +kernel
theorem dX8_dropRule_13 : decode cX8_dropRule 13 = .ok (.iload_n 1, 1) := by decide +kernel
theorem dX8_dropRule_14 : decode cX8_dropRule 14 = .ok (.aaload, 1) := by decide +kernel
theorem dX8_dropRule_15 : decode cX8_dropRule 15 = .ok (.astore_n 2, 1) := by decide +kernel
theorem dX8_dropRule_16 : decode cX8_dropRule 16 = .ok (.iload_n 1, 1) := by decide +kernel
theorem dX8_dropRule_17 : decode cX8_dropRule 17 = .ok (.istore_n 3, 1) := by decide +kernel
theorem dX8_dropRule_18 : decode cX8_dropRule 18 = .ok (.iload_n 3, 1) := by decide +kernel
theorem dX8_dropRule_19 : decode cX8_dropRule 19 = .ok (.aload_n 0, 1) := by decide +kernel
theorem dX8_dropRule_20 : decode cX8_dropRule 20 = .ok (.getfield 53, 3) := by decide +kernel
theorem dX8_dropRule_23 : decode cX8_dropRule 23 = .ok (.iconst 1, 1) := by decide +kernel
theorem dX8_dropRule_24 : decode cX8_dropRule 24 = .ok (.isub, 1) := by decide +kernel
theorem dX8_dropRule_25 : decode cX8_dropRule 25 = .ok (.if_icmp .ge 23, 3) := by decide +kernel
theorem dX8_dropRule_28 : decode cX8_dropRule 28 = .ok (.aload_n 0, 1) := by decide +kernel
theorem dX8_dropRule_29 : decode cX8_dropRule 29 = .ok (.getfield 25, 3) := by decide +kernel
theorem dX8_dropRule_32 : decode cX8_dropRule 32 = .ok (.iload_n 3, 1) := by decide +kernel
theorem dX8_dropRule_33 : decode cX8_dropRule 33 = .ok (.aload_n 0, 1) := by decide +kernel
theorem dX8_dropRule_34 : decode cX8_dropRule 34 = .ok (.getfield 25, 3) := by decide +kernel
theorem dX8_dropRule_37 : decode cX8_dropRule 37 = .ok (.iload_n 3, 1) := by decide +kernel
theorem dX8_dropRule_38 : decode cX8_dropRule 38 = .ok (.iconst 1, 1) := by decide +kernel
theorem dX8_dropRule_39 : decode cX8_dropRule 39 = .ok (.iadd, 1) := by decide +kernel
theorem dX8_dropRule_40 : decode cX8_dropRule 40 = .ok (.aaload, 1) := by decide +kernel
theorem dX8_dropRule_41 : decode cX8_dropRule 41 = .ok (.aastore, 1) := by decide +kernel
theorem dX8_dropRule_42 : decode cX8_dropRule 42 = .ok (.iinc 3 1, 3) := by decide +kernel
theorem dX8_dropRule_45 : decode cX8_dropRule 45 = .ok (.goto (-27), 3) := by decide +kernel
theorem dX8_dropRule_48 : decode cX8_dropRule 48 = .ok (.aload_n 0, 1) := by decide +kernel
theorem dX8_dropRule_49 : decode cX8_dropRule 49 = .ok (.dup, 1) := by decide +kernel
theorem dX8_dropRule_50 : decode cX8_dropRule 50 = .ok (.getfield 53, 3) := by decide +kernel
theorem dX8_dropRule_53 : decode cX8_dropRule 53 = .ok (.iconst 1, 1) := by decide +kernel
theorem dX8_dropRule_54 : decode cX8_dropRule 54 = .ok (.isub, 1) := by decide +kernel
theorem dX8_dropRule_55 : decode cX8_dropRule 55 = .ok (.putfield 53, 3) := by decide +kernel
theorem dX8_dropRule_58 : decode cX8_dropRule 58 = .ok (.aload_n 0, 1) := by decide +kernel
theorem dX8_dropRule_59 : decode cX8_dropRule 59 = .ok (.getfield 25, 3) := by decide +kernel
theorem dX8_dropRule_62 : decode cX8_dropRule 62 = .ok (.aload_n 0, 1) := by decide +kernel
theorem dX8_dropRule_63 : decode cX8_dropRule 63 = .ok (.getfield 53, 3) := by decide +kernel
theorem dX8_dropRule_66 : decode cX8_dropRule 66 = .ok (.aload_n 2, 1) := by decide +kernel
theorem dX8_dropRule_67 : decode cX8_dropRule 67 = .ok (.aastore, 1) := by decide +kernel
theorem dX8_dropRule_68 : decode cX8_dropRule 68 = .ok (.return_, 1) := by decide +kernel
theorem dX8_dropWatcher_0 : decode cX8_dropWatcher 0 = .ok (.aload_n 0, 1) := by decide +kernel
theorem dX8_dropWatcher_1 : decode cX8_dropWatcher 1 = .ok (.iload_n 1, 1) := by decide +kernel
theorem dX8_dropWatcher_2 : decode cX8_dropWatcher 2 = .ok (.invokevirtual 108, 3) := by decide +kernel
theorem dX8_dropWatcher_5 : decode cX8_dropWatcher 5 = .ok (.ifCond .ne 4, 3) := by decide +kernel
theorem dX8_dropWatcher_8 : decode cX8_dropWatcher 8 = .ok (.return_, 1) := by decide +kernel
theorem dX8_dropWatcher_9 : decode cX8_dropWatcher 9 = .ok (.aload_n 0, 1) := by decide +kernel
theorem dX8_dropWatcher_10 : decode cX8_dropWatcher 10 = .ok (.getfield 31, 3) := by decide +kernel
theorem dX8_dropWatcher_13 : decode cX8_dropWatcher 13 = .ok (.iload_n 1, 1) := by decide +kernel
theorem dX8_dropWatcher_14 : decode cX8_dropWatcher 14 = .ok (.aaload, 1) := by decide +kernel
theorem dX8_dropWatcher_15 : decode cX8_dropWatcher 15 = .ok (.astore_n 2, 1) := by decide +kernel
theorem dX8_dropWatcher_16 : decode cX8_dropWatcher 16 = .ok (.iload_n 1, 1) := by decide +kernel
theorem dX8_dropWatcher_17 : decode cX8_dropWatcher 17 = .ok (.istore_n 3, 1) := by decide +kernel
theorem dX8_dropWatcher_18 : decode cX8_dropWatcher 18 = .ok (.iload_n 3, 1) := by decide +kernel
theorem dX8_dropWatcher_19 : decode cX8_dropWatcher 19 = .ok (.aload_n 0, 1) := by decide +kernel
theorem dX8_dropWatcher_20 : decode cX8_dropWatcher 20 = .ok (.getfield 56, 3) := by decide +kernel
theorem dX8_dropWatcher_23 : decode cX8_dropWatcher 23 = .ok (.iconst 1, 1) := by decide +kernel
theorem dX8_dropWatcher_24 : decode cX8_dropWatcher 24 = .ok (.isub, 1) := by decide +kernel
theorem dX8_dropWatcher_25 : decode cX8_dropWatcher 25 = .ok (.if_icmp .ge 23, 3) := by decide +kernel
theorem dX8_dropWatcher_28 : decode cX8_dropWatcher 28 = .ok (.aload_n 0, 1) := by decide +kernel
theorem dX8_dropWatcher_29 : decode cX8_dropWatcher 29 = .ok (.getfield 31, 3) := by decide +kernel
theorem dX8_dropWatcher_32 : decode cX8_dropWatcher 32 = .ok (.iload_n 3, 1) := by decide +kernel
theorem dX8_dropWatcher_33 : decode cX8_dropWatcher 33 = .ok (.aload_n 0, 1) := by decide +kernel
theorem dX8_dropWatcher_34 : decode cX8_dropWatcher 34 = .ok (.getfield 31, 3) := by decide +kernel
theorem dX8_dropWatcher_37 : decode cX8_dropWatcher 37 = .ok (.iload_n 3, 1) := by decide +kernel
theorem dX8_dropWatcher_38 : decode cX8_dropWatcher 38 = .ok (.iconst 1, 1) := by decide +kernel
theorem dX8_dropWatcher_39 : decode cX8_dropWatcher 39 = .ok (.iadd, 1) := by decide +kernel
theorem dX8_dropWatcher_40 : decode cX8_dropWatcher 40 = .ok (.aaload, 1) := by decide +kernel
theorem dX8_dropWatcher_41 : decode cX8_dropWatcher 41 = .ok (.aastore, 1) := by decide +kernel
theorem dX8_dropWatcher_42 : decode cX8_dropWatcher 42 = .ok (.iinc 3 1, 3) := by decide +kernel
theorem dX8_dropWatcher_45 : decode cX8_dropWatcher 45 = .ok (.goto (-27), 3) := by decide +kernel
theorem dX8_dropWatcher_48 : decode cX8_dropWatcher 48 = .ok (.aload_n 0, 1) := by decide +kernel
theorem dX8_dropWatcher_49 : decode cX8_dropWatcher 49 = .ok (.dup, 1) := by decide +kernel
theorem dX8_dropWatcher_50 : decode cX8_dropWatcher 50 = .ok (.getfield 56, 3) := by decide +kernel
theorem dX8_dropWatcher_53 : decode cX8_dropWatcher 53 = .ok (.iconst 1, 1) := by decide +kernel
theorem dX8_dropWatcher_54 : decode cX8_dropWatcher 54 = .ok (.isub, 1) := by decide +kernel
theorem dX8_dropWatcher_55 : decode cX8_dropWatcher 55 = .ok (.putfield 56, 3) := by decide +kernel
theorem dX8_dropWatcher_58 : decode cX8_dropWatcher 58 = .ok (.aload_n 0, 1) := by decide +kernel
theorem dX8_dropWatcher_59 : decode cX8_dropWatcher 59 = .ok (.getfield 31, 3) := by decide +kernel
theorem dX8_dropWatcher_62 : decode cX8_dropWatcher 62 = .ok (.aload_n 0, 1) := by decide +kernel
theorem dX8_dropWatcher_63 : decode cX8_dropWatcher 63 = .ok (.getfield 56, 3) := by decide +kernel
theorem dX8_dropWatcher_66 : decode cX8_dropWatcher 66 = .ok (.aload_n 2, 1) := by decide +kernel
theorem dX8_dropWatcher_67 : decode cX8_dropWatcher 67 = .ok (.aastore, 1) := by decide +kernel
theorem dX8_dropWatcher_68 : decode cX8_dropWatcher 68 = .ok (.return_, 1) := by decide +kernel
theorem dX8_ageEffects_0 : decode cX8_ageEffects 0 = .ok (.aload_n 0, 1) := by decide +kernel
theorem dX8_ageEffects_1 : decode cX8_ageEffects 1 = .ok (.getfield 50, 3) := by decide +kernel
theorem dX8_ageEffects_4 : decode cX8_ageEffects 4 = .ok (.iconst 1, 1) := by decide +kernel
theorem dX8_ageEffects_5 : decode cX8_ageEffects 5 = .ok (.isub, 1) := by decide +kernel
theorem dX8_ageEffects_6 : decode cX8_ageEffects 6 = .ok (.istore_n 1, 1) := by decide +kernel
theorem dX8_ageEffects_7 : decode cX8_ageEffects 7 = .ok (.iload_n 1, 1) := by decide +kernel
theorem dX8_ageEffects_8 : decode cX8_ageEffects 8 = .ok (.ifCond .lt 53, 3) := by decide +kernel
theorem dX8_ageEffects_11 : decode cX8_ageEffects 11 = .ok (.aload_n 0, 1) := by decide +kernel
theorem dX8_ageEffects_12 : decode cX8_ageEffects 12 = .ok (.getfield 19, 3) := by decide +kernel
theorem dX8_ageEffects_15 : decode cX8_ageEffects 15 = .ok (.iload_n 1, 1) := by decide +kernel
theorem dX8_ageEffects_16 : decode cX8_ageEffects 16 = .ok (.aaload, 1) := by decide +kernel
theorem dX8_ageEffects_17 : decode cX8_ageEffects 17 = .ok (.getfield 111, 3) := by decide +kernel
theorem dX8_ageEffects_20 : decode cX8_ageEffects 20 = .ok (.ifCond .le 35, 3) := by decide +kernel
theorem dX8_ageEffects_23 : decode cX8_ageEffects 23 = .ok (.aload_n 0, 1) := by decide +kernel
theorem dX8_ageEffects_24 : decode cX8_ageEffects 24 = .ok (.getfield 19, 3) := by decide +kernel
theorem dX8_ageEffects_27 : decode cX8_ageEffects 27 = .ok (.iload_n 1, 1) := by decide +kernel
theorem dX8_ageEffects_28 : decode cX8_ageEffects 28 = .ok (.aaload, 1) := by decide +kernel
theorem dX8_ageEffects_29 : decode cX8_ageEffects 29 = .ok (.dup, 1) := by decide +kernel
theorem dX8_ageEffects_30 : decode cX8_ageEffects 30 = .ok (.getfield 111, 3) := by decide +kernel
theorem dX8_ageEffects_33 : decode cX8_ageEffects 33 = .ok (.iconst 1, 1) := by decide +kernel
theorem dX8_ageEffects_34 : decode cX8_ageEffects 34 = .ok (.isub, 1) := by decide +kernel
theorem dX8_ageEffects_35 : decode cX8_ageEffects 35 = .ok (.putfield 111, 3) := by decide +kernel
theorem dX8_ageEffects_38 : decode cX8_ageEffects 38 = .ok (.aload_n 0, 1) := by decide +kernel
theorem dX8_ageEffects_39 : decode cX8_ageEffects 39 = .ok (.getfield 19, 3) := by decide +kernel
theorem dX8_ageEffects_42 : decode cX8_ageEffects 42 = .ok (.iload_n 1, 1) := by decide +kernel
theorem dX8_ageEffects_43 : decode cX8_ageEffects 43 = .ok (.aaload, 1) := by decide +kernel
theorem dX8_ageEffects_44 : decode cX8_ageEffects 44 = .ok (.getfield 111, 3) := by decide +kernel
theorem dX8_ageEffects_47 : decode cX8_ageEffects 47 = .ok (.ifCond .ne 8, 3) := by decide +kernel
theorem dX8_ageEffects_50 : decode cX8_ageEffects 50 = .ok (.aload_n 0, 1) := by decide +kernel
theorem dX8_ageEffects_51 : decode cX8_ageEffects 51 = .ok (.iload_n 1, 1) := by decide +kernel
theorem dX8_ageEffects_52 : decode cX8_ageEffects 52 = .ok (.invokevirtual 114, 3) := by decide +kernel
theorem dX8_ageEffects_55 : decode cX8_ageEffects 55 = .ok (.iinc 1 (-1), 3) := by decide +kernel
theorem dX8_ageEffects_58 : decode cX8_ageEffects 58 = .ok (.goto (-51), 3) := by decide +kernel
theorem dX8_ageEffects_61 : decode cX8_ageEffects 61 = .ok (.return_, 1) := by decide +kernel
theorem dX8_draw_0 : decode cX8_draw 0 = .ok (.aload_n 0, 1) := by decide +kernel
theorem dX8_draw_1 : decode cX8_draw 1 = .ok (.aload_n 0, 1) := by decide +kernel
theorem dX8_draw_2 : decode cX8_draw 2 = .ok (.getfield 39, 3) := by decide +kernel
theorem dX8_draw_5 : decode cX8_draw 5 = .ok (.ldc 118, 2) := by decide +kernel
theorem dX8_draw_7 : decode cX8_draw 7 = .ok (.imul, 1) := by decide +kernel
theorem dX8_draw_8 : decode cX8_draw 8 = .ok (.sipush 12345, 3) := by decide +kernel
theorem dX8_draw_11 : decode cX8_draw 11 = .ok (.iadd, 1) := by decide +kernel
theorem dX8_draw_12 : decode cX8_draw 12 = .ok (.putfield 39, 3) := by decide +kernel
theorem dX8_draw_15 : decode cX8_draw 15 = .ok (.aload_n 0, 1) := by decide +kernel
theorem dX8_draw_16 : decode cX8_draw 16 = .ok (.getfield 39, 3) := by decide +kernel
theorem dX8_draw_19 : decode cX8_draw 19 = .ok (.bipush 16, 2) := by decide +kernel
theorem dX8_draw_21 : decode cX8_draw 21 = .ok (.iushr, 1) := by decide +kernel
theorem dX8_draw_22 : decode cX8_draw 22 = .ok (.ireturn, 1) := by decide +kernel
