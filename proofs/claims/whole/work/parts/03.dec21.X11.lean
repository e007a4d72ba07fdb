theorem dX11_set_39 : decode cX11_set 39 = .ok (.bipush 99, 2) := by decide +kernel
theorem dX11_set_41 : decode cX11_set 41 = .ok (.invokestatic 84, 3) := by decide +kernel
theorem dX11_set_44 : decode cX11_set 44 = .ok (.ifCond .ne 6, 3) := by decide +kernel
theorem dX11_set_47 : decode cX11_set 47 = .ok (.bipush (-2), 2) := by decide +kernel
theorem dX11_set_49 : decode cX11_set 49 = .ok (.ireturn, 1) := by decide +kernel
theorem dX11_set_50 : decode cX11_set 50 = .ok (.aload_n 0, 1) := by decide +kernel
theorem dX11_set_51 : decode cX11_set 51 = .ok (.iload_n 1, 1) := by decide +kernel
theorem dX11_set_52 : decode cX11_set 52 = .ok (.invokevirtual 100, 3) := by decide +kernel
theorem dX11_set_55 : decode cX11_set 55 = .ok (.ifCond .ne 6, 3) := by decide +kernel
theorem dX11_set_58 : decode cX11_set 58 = .ok (.bipush (-3), 2) := by decide +kernel
theorem dX11_set_60 : decode cX11_set 60 = .ok (.ireturn, 1) := by decide +kernel
theorem dX11_set_61 : decode cX11_set 61 = .ok (.aload_n 0, 1) := by decide +kernel
theorem dX11_set_62 : decode cX11_set 62 = .ok (.iload_n 1, 1) := by decide +kernel
theorem dX11_set_63 : decode cX11_set 63 = .ok (.iload_n 2, 1) := by decide +kernel
theorem dX11_set_64 : decode cX11_set 64 = .ok (.invokevirtual 92, 3) := by decide +kernel
theorem dX11_set_67 : decode cX11_set 67 = .ok (.istore 4, 2) := by decide +kernel
theorem dX11_set_69 : decode cX11_set 69 = .ok (.aload_n 0, 1) := by decide +kernel
theorem dX11_set_70 : decode cX11_set 70 = .ok (.getfield 7, 3) := by decide +kernel
theorem dX11_set_73 : decode cX11_set 73 = .ok (.iconst 0, 1) := by decide +kernel
theorem dX11_set_74 : decode cX11_set 74 = .ok (.bipush 10, 2) := by decide +kernel
theorem dX11_set_76 : decode cX11_set 76 = .ok (.iload_n 1, 1) := by decide +kernel
theorem dX11_set_77 : decode cX11_set 77 = .ok (.imul, 1) := by decide +kernel
theorem dX11_set_78 : decode cX11_set 78 = .ok (.iadd, 1) := by decide +kernel
theorem dX11_set_79 : decode cX11_set 79 = .ok (.iload_n 2, 1) := by decide +kernel
theorem dX11_set_80 : decode cX11_set 80 = .ok (.iadd, 1) := by decide +kernel
theorem dX11_set_81 : decode cX11_set 81 = .ok (.iload_n 3, 1) := by decide +kernel
theorem dX11_set_82 : decode cX11_set 82 = .ok (.iastore, 1) := by decide +kernel
theorem dX11_set_83 : decode cX11_set 83 = .ok (.aload_n 0, 1) := by decide +kernel
theorem dX11_set_84 : decode cX11_set 84 = .ok (.iload 4, 2) := by decide +kernel
theorem dX11_set_86 : decode cX11_set 86 = .ok (.invokevirtual 167, 3) := by decide +kernel
theorem dX11_set_89 : decode cX11_set 89 = .ok (.ireturn, 1) := by decide +kernel
theorem dX11_scope_0 : decode cX11_scope 0 = .ok (.iload_n 1, 1) := by decide +kernel
theorem dX11_scope_1 : decode cX11_scope 1 = .ok (.iload_n 2, 1) := by decide +kernel
theorem dX11_scope_2 : decode cX11_scope 2 = .ok (.invokestatic 173, 3) := by decide +kernel
theorem dX11_scope_5 : decode cX11_scope 5 = .ok (.ifCond .ne 6, 3) := by decide +kernel
theorem dX11_scope_8 : decode cX11_scope 8 = .ok (.bipush (-2), 2) := by decide +kernel
theorem dX11_scope_10 : decode cX11_scope 10 = .ok (.ireturn, 1) := by decide +kernel
theorem dX11_scope_11 : decode cX11_scope 11 = .ok (.aload_n 0, 1) := by decide +kernel
theorem dX11_scope_12 : decode cX11_scope 12 = .ok (.iconst 5, 1) := by decide +kernel
theorem dX11_scope_13 : decode cX11_scope 13 = .ok (.invokevirtual 145, 3) := by decide +kernel
theorem dX11_scope_16 : decode cX11_scope 16 = .ok (.aload_n 0, 1) := by decide +kernel
theorem dX11_scope_17 : decode cX11_scope 17 = .ok (.aload_n 0, 1) := by decide +kernel
theorem dX11_scope_18 : decode cX11_scope 18 = .ok (.getfield 19, 3) := by decide +kernel
theorem dX11_scope_21 : decode cX11_scope 21 = .ok (.iload_n 1, 1) := by decide +kernel
theorem dX11_scope_22 : decode cX11_scope 22 = .ok (.iload_n 2, 1) := by decide +kernel
theorem dX11_scope_23 : decode cX11_scope 23 = .ok (.invokevirtual 106, 3) := by decide +kernel
theorem dX11_scope_26 : decode cX11_scope 26 = .ok (.ireturn, 1) := by decide +kernel
theorem dX11_isDeed_0 : decode cX11_isDeed 0 = .ok (.iload_n 0, 1) := by decide +kernel
theorem dX11_isDeed_1 : decode cX11_isDeed 1 = .ok (.iconst 0, 1) := by decide +kernel
theorem dX11_isDeed_2 : decode cX11_isDeed 2 = .ok (.iconst 5, 1) := by decide +kernel
theorem dX11_isDeed_3 : decode cX11_isDeed 3 = .ok (.invokestatic 84, 3) := by decide +kernel
theorem dX11_isDeed_6 : decode cX11_isDeed 6 = .ok (.ifCond .eq 47, 3) := by decide +kernel
theorem dX11_isDeed_9 : decode cX11_isDeed 9 = .ok (.iload_n 1, 1) := by decide +kernel
theorem dX11_isDeed_10 : decode cX11_isDeed 10 = .ok (.iload_n 0, 1) := by decide +kernel
theorem dX11_isDeed_11 : decode cX11_isDeed 11 = .ok (.iconst 3, 1) := by decide +kernel
theorem dX11_isDeed_12 : decode cX11_isDeed 12 = .ok (.if_icmp .ge 7, 3) := by decide +kernel
theorem dX11_isDeed_15 : decode cX11_isDeed 15 = .ok (.iconst 0, 1) := by decide +kernel
theorem dX11_isDeed_16 : decode cX11_isDeed 16 = .ok (.goto 5, 3) := by decide +kernel
theorem dX11_isDeed_19 : decode cX11_isDeed 19 = .ok (.bipush (-9), 2) := by decide +kernel
theorem dX11_isDeed_21 : decode cX11_isDeed 21 = .ok (.iload_n 0, 1) := by decide +kernel
theorem dX11_isDeed_22 : decode cX11_isDeed 22 = .ok (.iconst 3, 1) := by decide +kernel
theorem dX11_isDeed_23 : decode cX11_isDeed 23 = .ok (.if_icmp .ge 7, 3) := by decide +kernel
theorem dX11_isDeed_26 : decode cX11_isDeed 26 = .ok (.iconst 5, 1) := by decide +kernel
theorem dX11_isDeed_27 : decode cX11_isDeed 27 = .ok (.goto 5, 3) := by decide +kernel
theorem dX11_isDeed_30 : decode cX11_isDeed 30 = .ok (.bipush 9, 2) := by decide +kernel
theorem dX11_isDeed_32 : decode cX11_isDeed 32 = .ok (.invokestatic 84, 3) := by decide +kernel
theorem dX11_isDeed_35 : decode cX11_isDeed 35 = .ok (.ifCond .eq 18, 3) := by decide +kernel
theorem dX11_isDeed_38 : decode cX11_isDeed 38 = .ok (.iload_n 2, 1) := by decide +kernel
theorem dX11_isDeed_39 : decode cX11_isDeed 39 = .ok (.bipush (-9), 2) := by decide +kernel
theorem dX11_isDeed_41 : decode cX11_isDeed 41 = .ok (.bipush 9, 2) := by decide +kernel
theorem dX11_isDeed_43 : decode cX11_isDeed 43 = .ok (.invokestatic 84, 3) := by decide +kernel
theorem dX11_isDeed_46 : decode cX11_isDeed 46 = .ok (.ifCond .eq 7, 3) := by decide +kernel
theorem dX11_isDeed_49 : decode cX11_isDeed 49 = .ok (.iconst 1, 1) := by decide +kernel
theorem dX11_isDeed_50 : decode cX11_isDeed 50 = .ok (.goto 4, 3) := by decide +kernel
theorem dX11_isDeed_53 : decode cX11_isDeed 53 = .ok (.iconst 0, 1) := by decide +kernel
theorem dX11_isDeed_54 : decode cX11_isDeed 54 = .ok (.ireturn, 1) := by decide +kernel
theorem dX11_lays_0 : decode cX11_lays 0 = .ok (.bipush 80, 2) := by decide +kernel
theorem dX11_lays_2 : decode cX11_lays 2 = .ok (.bipush 7, 2) := by decide +kernel
theorem dX11_lays_4 : decode cX11_lays 4 = .ok (.iload_n 1, 1) := by decide +kernel
theorem dX11_lays_5 : decode cX11_lays 5 = .ok (.imul, 1) := by decide +kernel
theorem dX11_lays_6 : decode cX11_lays 6 = .ok (.iadd, 1) := by decide +kernel
theorem dX11_lays_7 : decode cX11_lays 7 = .ok (.istore 7, 2) := by decide +kernel
theorem dX11_lays_9 : decode cX11_lays 9 = .ok (.aload_n 0, 1) := by decide +kernel
theorem dX11_lays_10 : decode cX11_lays 10 = .ok (.getfield 7, 3) := by decide +kernel
theorem dX11_lays_13 : decode cX11_lays 13 = .ok (.iload 7, 2) := by decide +kernel
theorem dX11_lays_15 : decode cX11_lays 15 = .ok (.iconst (-1), 1) := by decide +kernel
theorem dX11_lays_16 : decode cX11_lays 16 = .ok (.iastore, 1) := by decide +kernel
theorem dX11_lays_17 : decode cX11_lays 17 = .ok (.aload_n 0, 1) := by decide +kernel
theorem dX11_lays_18 : decode cX11_lays 18 = .ok (.getfield 7, 3) := by decide +kernel
theorem dX11_lays_21 : decode cX11_lays 21 = .ok (.iload 7, 2) := by decide +kernel
theorem dX11_lays_23 : decode cX11_lays 23 = .ok (.iconst 1, 1) := by decide +kernel
theorem dX11_lays_24 : decode cX11_lays 24 = .ok (.iadd, 1) := by decide +kernel
theorem dX11_lays_25 : decode cX11_lays 25 = .ok (.iload_n 2, 1) := by decide +kernel
theorem dX11_lays_26 : decode cX11_lays 26 = .ok (.iastore, 1) := by decide +kernel
theorem dX11_lays_27 : decode cX11_lays 27 = .ok (.aload_n 0, 1) := by decide +kernel
theorem dX11_lays_28 : decode cX11_lays 28 = .ok (.getfield 7, 3) := by decide +kernel
theorem dX11_lays_31 : decode cX11_lays 31 = .ok (.iload 7, 2) := by decide +kernel
theorem dX11_lays_33 : decode cX11_lays 33 = .ok (.iconst 2, 1) := by decide +kernel
theorem dX11_lays_34 : decode cX11_lays 34 = .ok (.iadd, 1) := by decide +kernel
theorem dX11_lays_35 : decode cX11_lays 35 = .ok (.iload_n 3, 1) := by decide +kernel
theorem dX11_lays_36 : decode cX11_lays 36 = .ok (.iastore, 1) := by decide +kernel
theorem dX11_lays_37 : decode cX11_lays 37 = .ok (.aload_n 0, 1) := by decide +kernel
theorem dX11_lays_38 : decode cX11_lays 38 = .ok (.getfield 7, 3) := by decide +kernel
theorem dX11_lays_41 : decode cX11_lays 41 = .ok (.iload 7, 2) := by decide +kernel
theorem dX11_lays_43 : decode cX11_lays 43 = .ok (.iconst 3, 1) := by decide +kernel
theorem dX11_lays_44 : decode cX11_lays 44 = .ok (.iadd, 1) := by decide +kernel
theorem dX11_lays_45 : decode cX11_lays 45 = .ok (.iload 4, 2) := by decide +kernel
theorem dX11_lays_47 : decode cX11_lays 47 = .ok (.iastore, 1) := by decide +kernel
theorem dX11_lays_48 : decode cX11_lays 48 = .ok (.aload_n 0, 1) := by decide +kernel
theorem dX11_lays_49 : decode cX11_lays 49 = .ok (.getfield 7, 3) := by decide +kernel
theorem dX11_lays_52 : decode cX11_lays 52 = .ok (.iload 7, 2) := by decide +kernel
theorem dX11_lays_54 : decode cX11_lays 54 = .ok (.iconst 4, 1) := by decide +kernel
theorem dX11_lays_55 : decode cX11_lays 55 = .ok (.iadd, 1) := by decide +kernel
theorem dX11_lays_56 : decode cX11_lays 56 = .ok (.iload 5, 2) := by decide +kernel
theorem dX11_lays_58 : decode cX11_lays 58 = .ok (.iastore, 1) := by decide +kernel
theorem dX11_lays_59 : decode cX11_lays 59 = .ok (.aload_n 0, 1) := by decide +kernel
theorem dX11_lays_60 : decode cX11_lays 60 = .ok (.getfield 7, 3) := by decide +kernel
theorem dX11_lays_63 : decode cX11_lays 63 = .ok (.iload 7, 2) := by decide +kernel
theorem dX11_lays_65 : decode cX11_lays 65 = .ok (.iconst 5, 1) := by decide +kernel
theorem dX11_lays_66 : decode cX11_lays 66 = .ok (.iadd, 1) := by decide +kernel
theorem dX11_lays_67 : decode cX11_lays 67 = .ok (.iload 6, 2) := by decide +kernel
theorem dX11_lays_69 : decode cX11_lays 69 = .ok (.iastore, 1) := by decide +kernel
theorem dX11_lays_70 : decode cX11_lays 70 = .ok (.aload_n 0, 1) := by decide +kernel
theorem dX11_lays_71 : decode cX11_lays 71 = .ok (.getfield 7, 3) := by decide +kernel
theorem dX11_lays_74 : decode cX11_lays 74 = .ok (.iload 7, 2) := by decide +kernel
theorem dX11_lays_76 : decode cX11_lays 76 = .ok (.bipush 6, 2) := by decide +kernel
theorem dX11_lays_78 : decode cX11_lays 78 = .ok (.iadd, 1) := by decide +kernel
theorem dX11_lays_79 : decode cX11_lays 79 = .ok (.iconst 0, 1) := by decide +kernel
theorem dX11_lays_80 : decode cX11_lays 80 = .ok (.iastore, 1) := by decide +kernel
theorem dX11_lays_81 : decode cX11_lays 81 = .ok (.return_, 1) := by decide +kernel
theorem dX11_effect_0 : decode cX11_effect 0 = .ok (.iload_n 1, 1) := by decide +kernel
theorem dX11_effect_1 : decode cX11_effect 1 = .ok (.iload 4, 2) := by decide +kernel
theorem dX11_effect_3 : decode cX11_effect 3 = .ok (.iload 5, 2) := by decide +kernel
theorem dX11_effect_5 : decode cX11_effect 5 = .ok (.invokestatic 176, 3) := by decide +kernel
theorem dX11_effect_8 : decode cX11_effect 8 = .ok (.ifCond .eq 11, 3) := by decide +kernel
theorem dX11_effect_11 : decode cX11_effect 11 = .ok (.iload_n 2, 1) := by decide +kernel
theorem dX11_effect_12 : decode cX11_effect 12 = .ok (.iload_n 3, 1) := by decide +kernel
theorem dX11_effect_13 : decode cX11_effect 13 = .ok (.invokestatic 173, 3) := by decide +kernel
theorem dX11_effect_16 : decode cX11_effect 16 = .ok (.ifCond .ne 6, 3) := by decide +kernel
theorem dX11_effect_19 : decode cX11_effect 19 = .ok (.bipush (-2), 2) := by decide +kernel
theorem dX11_effect_21 : decode cX11_effect 21 = .ok (.ireturn, 1) := by decide +kernel
theorem dX11_effect_22 : decode cX11_effect 22 = .ok (.aload_n 0, 1) := by decide +kernel
theorem dX11_effect_23 : decode cX11_effect 23 = .ok (.getfield 7, 3) := by decide +kernel
theorem dX11_effect_26 : decode cX11_effect 26 = .ok (.sipush 239, 3) := by decide +kernel
theorem dX11_effect_29 : decode cX11_effect 29 = .ok (.iaload, 1) := by decide +kernel
theorem dX11_effect_30 : decode cX11_effect 30 = .ok (.bipush 10, 2) := by decide +kernel
theorem dX11_effect_32 : decode cX11_effect 32 = .ok (.if_icmp .ne 6, 3) := by decide +kernel
theorem dX11_effect_35 : decode cX11_effect 35 = .ok (.bipush (-4), 2) := by decide +kernel
theorem dX11_effect_37 : decode cX11_effect 37 = .ok (.ireturn, 1) := by decide +kernel
theorem dX11_effect_38 : decode cX11_effect 38 = .ok (.aload_n 0, 1) := by decide +kernel
theorem dX11_effect_39 : decode cX11_effect 39 = .ok (.aload_n 0, 1) := by decide +kernel
theorem dX11_effect_40 : decode cX11_effect 40 = .ok (.getfield 7, 3) := by decide +kernel
theorem dX11_effect_43 : decode cX11_effect 43 = .ok (.sipush 239, 3) := by decide +kernel
theorem dX11_effect_46 : decode cX11_effect 46 = .ok (.iaload, 1) := by decide +kernel
theorem dX11_effect_47 : decode cX11_effect 47 = .ok (.iload_n 1, 1) := by decide +kernel
theorem dX11_effect_48 : decode cX11_effect 48 = .ok (.iload_n 2, 1) := by decide +kernel
theorem dX11_effect_49 : decode cX11_effect 49 = .ok (.iload_n 3, 1) := by decide +kernel
theorem dX11_effect_50 : decode cX11_effect 50 = .ok (.iload 4, 2) := by decide +kernel
theorem dX11_effect_52 : decode cX11_effect 52 = .ok (.iload 5, 2) := by decide +kernel
theorem dX11_effect_54 : decode cX11_effect 54 = .ok (.invokevirtual 179, 3) := by decide +kernel
theorem dX11_effect_57 : decode cX11_effect 57 = .ok (.aload_n 0, 1) := by decide +kernel
theorem dX11_effect_58 : decode cX11_effect 58 = .ok (.getfield 7, 3) := by decide +kernel
theorem dX11_effect_61 : decode cX11_effect 61 = .ok (.sipush 239, 3) := by decide +kernel
theorem dX11_effect_64 : decode cX11_effect 64 = .ok (.dup2, 1) := by decide +kernel
theorem dX11_effect_65 : decode cX11_effect 65 = .ok (.iaload, 1) := by decide +kernel
theorem dX11_effect_66 : decode cX11_effect 66 = .ok (.iconst 1, 1) := by decide +kernel
theorem dX11_effect_67 : decode cX11_effect 67 = .ok (.iadd, 1) := by decide +kernel
theorem dX11_effect_68 : decode cX11_effect 68 = .ok (.iastore, 1) := by decide +kernel
theorem dX11_effect_69 : decode cX11_effect 69 = .ok (.aload_n 0, 1) := by decide +kernel
theorem dX11_effect_70 : decode cX11_effect 70 = .ok (.aload_n 0, 1) := by decide +kernel
theorem dX11_effect_71 : decode cX11_effect 71 = .ok (.getfield 7, 3) := by decide +kernel
theorem dX11_effect_74 : decode cX11_effect 74 = .ok (.sipush 239, 3) := by decide +kernel
theorem dX11_effect_77 : decode cX11_effect 77 = .ok (.iaload, 1) := by decide +kernel
theorem dX11_effect_78 : decode cX11_effect 78 = .ok (.iconst 1, 1) := by decide +kernel
theorem dX11_effect_79 : decode cX11_effect 79 = .ok (.isub, 1) := by decide +kernel
theorem dX11_effect_80 : decode cX11_effect 80 = .ok (.invokevirtual 167, 3) := by decide +kernel
theorem dX11_effect_83 : decode cX11_effect 83 = .ok (.ireturn, 1) := by decide +kernel
theorem dX11_source_0 : decode cX11_source 0 = .ok (.aload_n 0, 1) := by decide +kernel
theorem dX11_source_1 : decode cX11_source 1 = .ok (.iload_n 1, 1) := by decide +kernel
theorem dX11_source_2 : decode cX11_source 2 = .ok (.invokevirtual 183, 3) := by decide +kernel
theorem dX11_source_5 : decode cX11_source 5 = .ok (.ifCond .eq 16, 3) := by decide +kernel
theorem dX11_source_8 : decode cX11_source 8 = .ok (.iload_n 2, 1) := by decide +kernel
theorem dX11_source_9 : decode cX11_source 9 = .ok (.iconst (-1), 1) := by decide +kernel
theorem dX11_source_10 : decode cX11_source 10 = .ok (.if_icmp .eq 14, 3) := by decide +kernel
theorem dX11_source_13 : decode cX11_source 13 = .ok (.aload_n 0, 1) := by decide +kernel
theorem dX11_source_14 : decode cX11_source 14 = .ok (.iload_n 2, 1) := by decide +kernel
theorem dX11_source_15 : decode cX11_source 15 = .ok (.invokevirtual 88, 3) := by decide +kernel
theorem dX11_source_18 : decode cX11_source 18 = .ok (.ifCond .ne 6, 3) := by decide +kernel
theorem dX11_source_21 : decode cX11_source 21 = .ok (.bipush (-2), 2) := by decide +kernel
theorem dX11_source_23 : decode cX11_source 23 = .ok (.ireturn, 1) := by decide +kernel
theorem dX11_source_24 : decode cX11_source 24 = .ok (.aload_n 0, 1) := by decide +kernel
theorem dX11_source_25 : decode cX11_source 25 = .ok (.iload_n 1, 1) := by decide +kernel
theorem dX11_source_26 : decode cX11_source 26 = .ok (.iconst 0, 1) := by decide +kernel
theorem dX11_source_27 : decode cX11_source 27 = .ok (.invokevirtual 103, 3) := by decide +kernel
theorem dX11_source_30 : decode cX11_source 30 = .ok (.istore_n 3, 1) := by decide +kernel
theorem dX11_source_31 : decode cX11_source 31 = .ok (.aload_n 0, 1) := by decide +kernel
theorem dX11_source_32 : decode cX11_source 32 = .ok (.getfield 7, 3) := by decide +kernel
theorem dX11_source_35 : decode cX11_source 35 = .ok (.bipush 80, 2) := by decide +kernel
theorem dX11_source_37 : decode cX11_source 37 = .ok (.bipush 7, 2) := by decide +kernel
theorem dX11_source_39 : decode cX11_source 39 = .ok (.iload_n 1, 1) := by decide +kernel
theorem dX11_source_40 : decode cX11_source 40 = .ok (.imul, 1) := by decide +kernel
theorem dX11_source_41 : decode cX11_source 41 = .ok (.iadd, 1) := by decide +kernel
theorem dX11_source_42 : decode cX11_source 42 = .ok (.iload_n 2, 1) := by decide +kernel
theorem dX11_source_43 : decode cX11_source 43 = .ok (.iastore, 1) := by decide +kernel
theorem dX11_source_44 : decode cX11_source 44 = .ok (.aload_n 0, 1) := by decide +kernel
theorem dX11_source_45 : decode cX11_source 45 = .ok (.iload_n 3, 1) := by decide +kernel
theorem dX11_source_46 : decode cX11_source 46 = .ok (.invokevirtual 167, 3) := by decide +kernel
theorem dX11_source_49 : decode cX11_source 49 = .ok (.ireturn, 1) := by decide +kernel
theorem dX11_lasts_0 : decode cX11_lasts 0 = .ok (.aload_n 0, 1) := by decide +kernel
theorem dX11_lasts_1 : decode cX11_lasts 1 = .ok (.iload_n 1, 1) := by decide +kernel
theorem dX11_lasts_2 : decode cX11_lasts 2 = .ok (.invokevirtual 183, 3) := by decide +kernel
theorem dX11_lasts_5 : decode cX11_lasts 5 = .ok (.ifCond .eq 13, 3) := by decide +kernel
theorem dX11_lasts_8 : decode cX11_lasts 8 = .ok (.iload_n 2, 1) := by decide +kernel
theorem dX11_lasts_9 : decode cX11_lasts 9 = .ok (.iconst 0, 1) := by decide +kernel
theorem dX11_lasts_10 : decode cX11_lasts 10 = .ok (.bipush 9, 2) := by decide +kernel
theorem dX11_lasts_12 : decode cX11_lasts 12 = .ok (.invokestatic 84, 3) := by decide +kernel
theorem dX11_lasts_15 : decode cX11_lasts 15 = .ok (.ifCond .ne 6, 3) := by decide +kernel
theorem dX11_lasts_18 : decode cX11_lasts 18 = .ok (.bipush (-2), 2) := by decide +kernel
theorem dX11_lasts_20 : decode cX11_lasts 20 = .ok (.ireturn, 1) := by decide +kernel
theorem dX11_lasts_21 : decode cX11_lasts 21 = .ok (.aload_n 0, 1) := by decide +kernel
theorem dX11_lasts_22 : decode cX11_lasts 22 = .ok (.iload_n 1, 1) := by decide +kernel
theorem dX11_lasts_23 : decode cX11_lasts 23 = .ok (.bipush 6, 2) := by decide +kernel
theorem dX11_lasts_25 : decode cX11_lasts 25 = .ok (.invokevirtual 103, 3) := by decide +kernel
theorem dX11_lasts_28 : decode cX11_lasts 28 = .ok (.istore_n 3, 1) := by decide +kernel
theorem dX11_lasts_29 : decode cX11_lasts 29 = .ok (.aload_n 0, 1) := by decide +kernel
theorem dX11_lasts_30 : decode cX11_lasts 30 = .ok (.getfield 7, 3) := by decide +kernel
theorem dX11_lasts_33 : decode cX11_lasts 33 = .ok (.bipush 80, 2) := by decide +kernel
theorem dX11_lasts_35 : decode cX11_lasts 35 = .ok (.bipush 7, 2) := by decide +kernel
theorem dX11_lasts_37 : decode cX11_lasts 37 = .ok (.iload_n 1, 1) := by decide +kernel
theorem dX11_lasts_38 : decode cX11_lasts 38 = .ok (.imul, 1) := by decide +kernel
theorem dX11_lasts_39 : decode cX11_lasts 39 = .ok (.iadd, 1) := by decide +kernel
theorem dX11_lasts_40 : decode cX11_lasts 40 = .ok (.bipush 6, 2) := by decide +kernel
theorem dX11_lasts_42 : decode cX11_lasts 42 = .ok (.iadd, 1) := by decide +kernel
theorem dX11_lasts_43 : decode cX11_lasts 43 = .ok (.iload_n 2, 1) := by decide +kernel
theorem dX11_lasts_44 : decode cX11_lasts 44 = .ok (.iastore, 1) := by decide +kernel
theorem dX11_lasts_45 : decode cX11_lasts 45 = .ok (.aload_n 0, 1) := by decide +kernel
theorem dX11_lasts_46 : decode cX11_lasts 46 = .ok (.iload_n 3, 1) := by decide +kernel
theorem dX11_lasts_47 : decode cX11_lasts 47 = .ok (.invokevirtual 167, 3) := by decide +kernel
theorem dX11_lasts_50 : decode cX11_lasts 50 = .ok (.ireturn, 1) := by decide +kernel
theorem dX11_goes_0 : decode cX11_goes 0 = .ok (.aload_n 0, 1) := by decide +kernel
theorem dX11_goes_1 : decode cX11_goes 1 = .ok (.getfield 7, 3) := by decide +kernel
theorem dX11_goes_4 : decode cX11_goes 4 = .ok (.iload_n 3, 1) := by decide +kernel
theorem dX11_goes_5 : decode cX11_goes 5 = .ok (.dup2, 1) := by decide +kernel
theorem dX11_goes_6 : decode cX11_goes 6 = .ok (.iaload, 1) := by decide +kernel
theorem dX11_goes_7 : decode cX11_goes 7 = .ok (.iconst 1, 1) := by decide +kernel
theorem dX11_goes_8 : decode cX11_goes 8 = .ok (.isub, 1) := by decide +kernel
theorem dX11_goes_9 : decode cX11_goes 9 = .ok (.iastore, 1) := by decide +kernel
theorem dX11_goes_10 : decode cX11_goes 10 = .ok (.iload_n 1, 1) := by decide +kernel
theorem dX11_goes_11 : decode cX11_goes 11 = .ok (.iload_n 2, 1) := by decide +kernel
theorem dX11_goes_12 : decode cX11_goes 12 = .ok (.iload 4, 2) := by decide +kernel
theorem dX11_goes_14 : decode cX11_goes 14 = .ok (.imul, 1) := by decide +kernel
theorem dX11_goes_15 : decode cX11_goes 15 = .ok (.iadd, 1) := by decide +kernel
theorem dX11_goes_16 : decode cX11_goes 16 = .ok (.istore 5, 2) := by decide +kernel
theorem dX11_goes_18 : decode cX11_goes 18 = .ok (.iload 5, 2) := by decide +kernel
theorem dX11_goes_20 : decode cX11_goes 20 = .ok (.iload_n 1, 1) := by decide +kernel
theorem dX11_goes_21 : decode cX11_goes 21 = .ok (.iload_n 2, 1) := by decide +kernel
theorem dX11_goes_22 : decode cX11_goes 22 = .ok (.aload_n 0, 1) := by decide +kernel
theorem dX11_goes_23 : decode cX11_goes 23 = .ok (.getfield 7, 3) := by decide +kernel
theorem dX11_goes_26 : decode cX11_goes 26 = .ok (.iload_n 3, 1) := by decide +kernel
theorem dX11_goes_27 : decode cX11_goes 27 = .ok (.iaload, 1) := by decide +kernel
theorem dX11_goes_28 : decode cX11_goes 28 = .ok (.imul, 1) := by decide +kernel
theorem dX11_goes_29 : decode cX11_goes 29 = .ok (.iadd, 1) := by decide +kernel
theorem dX11_goes_30 : decode cX11_goes 30 = .ok (.if_icmp .ge 25, 3) := by decide +kernel
theorem dX11_goes_33 : decode cX11_goes 33 = .ok (.aload_n 0, 1) := by decide +kernel
theorem dX11_goes_34 : decode cX11_goes 34 = .ok (.getfield 7, 3) := by decide +kernel
theorem dX11_goes_37 : decode cX11_goes 37 = .ok (.iload 5, 2) := by decide +kernel
theorem dX11_goes_39 : decode cX11_goes 39 = .ok (.aload_n 0, 1) := by decide +kernel
theorem dX11_goes_40 : decode cX11_goes 40 = .ok (.getfield 7, 3) := by decide +kernel
theorem dX11_goes_43 : decode cX11_goes 43 = .ok (.iload 5, 2) := by decide +kernel
theorem dX11_goes_45 : decode cX11_goes 45 = .ok (.iload_n 2, 1) := by decide +kernel
theorem dX11_goes_46 : decode cX11_goes 46 = .ok (.iadd, 1) := by decide +kernel
theorem dX11_goes_47 : decode cX11_goes 47 = .ok (.iaload, 1) := by decide +kernel
theorem dX11_goes_48 : decode cX11_goes 48 = .ok (.iastore, 1) := by decide +kernel
theorem dX11_goes_49 : decode cX11_goes 49 = .ok (.iinc 5 1, 3) := by decide +kernel
theorem dX11_goes_52 : decode cX11_goes 52 = .ok (.goto (-34), 3) := by decide +kernel
theorem dX11_goes_55 : decode cX11_goes 55 = .ok (.return_, 1) := by decide +kernel
theorem dX11_ends_0 : decode cX11_ends 0 = .ok (.aload_n 0, 1) := by decide +kernel
theorem dX11_ends_1 : decode cX11_ends 1 = .ok (.iload_n 1, 1) := by decide +kernel
theorem dX11_ends_2 : decode cX11_ends 2 = .ok (.invokevirtual 183, 3) := by decide +kernel
theorem dX11_ends_5 : decode cX11_ends 5 = .ok (.ifCond .ne 6, 3) := by decide +kernel
theorem dX11_ends_8 : decode cX11_ends 8 = .ok (.bipush (-2), 2) := by decide +kernel
theorem dX11_ends_10 : decode cX11_ends 10 = .ok (.ireturn, 1) := by decide +kernel
theorem dX11_ends_11 : decode cX11_ends 11 = .ok (.aload_n 0, 1) := by decide +kernel
theorem dX11_ends_12 : decode cX11_ends 12 = .ok (.bipush 80, 2) := by decide +kernel
theorem dX11_ends_14 : decode cX11_ends 14 = .ok (.bipush 7, 2) := by decide +kernel
theorem dX11_ends_16 : decode cX11_ends 16 = .ok (.sipush 239, 3) := by decide +kernel
theorem dX11_ends_19 : decode cX11_ends 19 = .ok (.iload_n 1, 1) := by decide +kernel
theorem dX11_ends_20 : decode cX11_ends 20 = .ok (.invokevirtual 186, 3) := by decide +kernel
theorem dX11_ends_23 : decode cX11_ends 23 = .ok (.aload_n 0, 1) := by decide +kernel
theorem dX11_ends_24 : decode cX11_ends 24 = .ok (.aload_n 0, 1) := by decide +kernel
theorem dX11_ends_25 : decode cX11_ends 25 = .ok (.getfield 7, 3) := by decide +kernel
theorem dX11_ends_28 : decode cX11_ends 28 = .ok (.sipush 239, 3) := by decide +kernel
theorem dX11_ends_31 : decode cX11_ends 31 = .ok (.iaload, 1) := by decide +kernel
theorem dX11_ends_32 : decode cX11_ends 32 = .ok (.invokevirtual 167, 3) := by decide +kernel
theorem dX11_ends_35 : decode cX11_ends 35 = .ok (.ireturn, 1) := by decide +kernel
theorem dX11_order_0 : decode cX11_order 0 = .ok (.iload_n 1, 1) := by decide +kernel
theorem dX11_order_1 : decode cX11_order 1 = .ok (.iconst (-1), 1) := by decide +kernel
theorem dX11_order_2 : decode cX11_order 2 = .ok (.if_icmp .ge 6, 3) := by decide +kernel
theorem dX11_order_5 : decode cX11_order 5 = .ok (.bipush (-2), 2) := by decide +kernel
theorem dX11_order_7 : decode cX11_order 7 = .ok (.ireturn, 1) := by decide +kernel
theorem dX11_order_8 : decode cX11_order 8 = .ok (.aload_n 0, 1) := by decide +kernel
theorem dX11_order_9 : decode cX11_order 9 = .ok (.iconst 5, 1) := by decide +kernel
theorem dX11_order_10 : decode cX11_order 10 = .ok (.invokevirtual 145, 3) := by decide +kernel
theorem dX11_order_13 : decode cX11_order 13 = .ok (.iload_n 1, 1) := by decide +kernel
theorem dX11_order_14 : decode cX11_order 14 = .ok (.iconst (-1), 1) := by decide +kernel
theorem dX11_order_15 : decode cX11_order 15 = .ok (.if_icmp .ne 10, 3) := by decide +kernel
theorem dX11_order_18 : decode cX11_order 18 = .ok (.aload_n 0, 1) := by decide +kernel
theorem dX11_order_19 : decode cX11_order 19 = .ok (.getfield 121, 3) := by decide +kernel
theorem dX11_order_22 : decode cX11_order 22 = .ok (.goto 21, 3) := by decide +kernel
theorem dX11_order_25 : decode cX11_order 25 = .ok (.iload_n 1, 1) := by decide +kernel
theorem dX11_order_26 : decode cX11_order 26 = .ok (.aload_n 0, 1) := by decide +kernel
theorem dX11_order_27 : decode cX11_order 27 = .ok (.getfield 121, 3) := by decide +kernel
theorem dX11_order_30 : decode cX11_order 30 = .ok (.if_icmp .ge 12, 3) := by decide +kernel
theorem dX11_order_33 : decode cX11_order 33 = .ok (.aload_n 0, 1) := by decide +kernel
theorem dX11_order_34 : decode cX11_order 34 = .ok (.getfield 25, 3) := by decide +kernel
theorem dX11_order_37 : decode cX11_order 37 = .ok (.iload_n 1, 1) := by decide +kernel
theorem dX11_order_38 : decode cX11_order 38 = .ok (.iaload, 1) := by decide +kernel
theorem dX11_order_39 : decode cX11_order 39 = .ok (.goto 4, 3) := by decide +kernel
theorem dX11_order_42 : decode cX11_order 42 = .ok (.iconst (-1), 1) := by decide +kernel
theorem dX11_order_43 : decode cX11_order 43 = .ok (.ireturn, 1) := by decide +kernel
theorem dX11_depends_0 : decode cX11_depends 0 = .ok (.aload_n 0, 1) := by decide +kernel
theorem dX11_depends_1 : decode cX11_depends 1 = .ok (.iload_n 1, 1) := by decide +kernel
theorem dX11_depends_2 : decode cX11_depends 2 = .ok (.invokevirtual 183, 3) := by decide +kernel
theorem dX11_depends_5 : decode cX11_depends 5 = .ok (.ifCond .eq 16, 3) := by decide +kernel
theorem dX11_depends_8 : decode cX11_depends 8 = .ok (.aload_n 0, 1) := by decide +kernel
theorem dX11_depends_9 : decode cX11_depends 9 = .ok (.iload_n 2, 1) := by decide +kernel
theorem dX11_depends_10 : decode cX11_depends 10 = .ok (.invokevirtual 183, 3) := by decide +kernel
theorem dX11_depends_13 : decode cX11_depends 13 = .ok (.ifCond .eq 8, 3) := by decide +kernel
theorem dX11_depends_16 : decode cX11_depends 16 = .ok (.iload_n 1, 1) := by decide +kernel
theorem dX11_depends_17 : decode cX11_depends 17 = .ok (.iload_n 2, 1) := by decide +kernel
theorem dX11_depends_18 : decode cX11_depends 18 = .ok (.if_icmp .ne 6, 3) := by decide +kernel
theorem dX11_depends_21 : decode cX11_depends 21 = .ok (.bipush (-2), 2) := by decide +kernel
theorem dX11_depends_23 : decode cX11_depends 23 = .ok (.ireturn, 1) := by decide +kernel
theorem dX11_depends_24 : decode cX11_depends 24 = .ok (.aload_n 0, 1) := by decide +kernel
theorem dX11_depends_25 : decode cX11_depends 25 = .ok (.iload_n 1, 1) := by decide +kernel
theorem dX11_depends_26 : decode cX11_depends 26 = .ok (.iconst 1, 1) := by decide +kernel
theorem dX11_depends_27 : decode cX11_depends 27 = .ok (.invokevirtual 103, 3) := by decide +kernel
theorem dX11_depends_30 : decode cX11_depends 30 = .ok (.invokestatic 125, 3) := by decide +kernel
theorem dX11_depends_33 : decode cX11_depends 33 = .ok (.istore_n 3, 1) := by decide +kernel
theorem dX11_depends_34 : decode cX11_depends 34 = .ok (.iload_n 3, 1) := by decide +kernel
theorem dX11_depends_35 : decode cX11_depends 35 = .ok (.aload_n 0, 1) := by decide +kernel
theorem dX11_depends_36 : decode cX11_depends 36 = .ok (.iload_n 2, 1) := by decide +kernel
theorem dX11_depends_37 : decode cX11_depends 37 = .ok (.iconst 1, 1) := by decide +kernel
theorem dX11_depends_38 : decode cX11_depends 38 = .ok (.invokevirtual 103, 3) := by decide +kernel
theorem dX11_depends_41 : decode cX11_depends 41 = .ok (.invokestatic 125, 3) := by decide +kernel
theorem dX11_depends_44 : decode cX11_depends 44 = .ok (.if_icmp .ne 19, 3) := by decide +kernel
theorem dX11_depends_47 : decode cX11_depends 47 = .ok (.aload_n 0, 1) := by decide +kernel
theorem dX11_depends_48 : decode cX11_depends 48 = .ok (.iload_n 1, 1) := by decide +kernel
theorem dX11_depends_49 : decode cX11_depends 49 = .ok (.invokevirtual 129, 3) := by decide +kernel
theorem dX11_depends_52 : decode cX11_depends 52 = .ok (.ifCond .eq 11, 3) := by decide +kernel
theorem dX11_depends_55 : decode cX11_depends 55 = .ok (.aload_n 0, 1) := by decide +kernel
theorem dX11_depends_56 : decode cX11_depends 56 = .ok (.iload_n 2, 1) := by decide +kernel
theorem dX11_depends_57 : decode cX11_depends 57 = .ok (.invokevirtual 129, 3) := by decide +kernel
theorem dX11_depends_60 : decode cX11_depends 60 = .ok (.ifCond .ne 6, 3) := by decide +kernel
theorem dX11_depends_63 : decode cX11_depends 63 = .ok (.bipush (-3), 2) := by decide +kernel
theorem dX11_depends_65 : decode cX11_depends 65 = .ok (.ireturn, 1) := by decide +kernel
theorem dX11_depends_66 : decode cX11_depends 66 = .ok (.aload_n 0, 1) := by decide +kernel
theorem dX11_depends_67 : decode cX11_depends 67 = .ok (.iload_n 3, 1) := by decide +kernel
theorem dX11_depends_68 : decode cX11_depends 68 = .ok (.invokevirtual 145, 3) := by decide +kernel
theorem dX11_depends_71 : decode cX11_depends 71 = .ok (.aload_n 0, 1) := by decide +kernel
theorem dX11_depends_72 : decode cX11_depends 72 = .ok (.iload_n 1, 1) := by decide +kernel
theorem dX11_depends_73 : decode cX11_depends 73 = .ok (.iload_n 2, 1) := by decide +kernel
theorem dX11_depends_74 : decode cX11_depends 74 = .ok (.invokevirtual 118, 3) := by decide +kernel
theorem dX11_depends_77 : decode cX11_depends 77 = .ok (.ifCond .eq 7, 3) := by decide +kernel
theorem dX11_depends_80 : decode cX11_depends 80 = .ok (.iconst 1, 1) := by decide +kernel
theorem dX11_depends_81 : decode cX11_depends 81 = .ok (.goto 4, 3) := by decide +kernel
theorem dX11_depends_84 : decode cX11_depends 84 = .ok (.iconst 0, 1) := by decide +kernel
theorem dX11_depends_85 : decode cX11_depends 85 = .ok (.ireturn, 1) := by decide +kernel
theorem dX11_ruleIs_0 : decode cX11_ruleIs 0 = .ok (.aload_n 0, 1) := by decide +kernel
theorem dX11_ruleIs_1 : decode cX11_ruleIs 1 = .ok (.getfield 7, 3) := by decide +kernel
theorem dX11_ruleIs_4 : decode cX11_ruleIs 4 = .ok (.sipush 150, 3) := by decide +kernel
theorem dX11_ruleIs_7 : decode cX11_ruleIs 7 = .ok (.iconst 4, 1) := by decide +kernel
theorem dX11_ruleIs_8 : decode cX11_ruleIs 8 = .ok (.iload_n 1, 1) := by decide +kernel
theorem dX11_ruleIs_9 : decode cX11_ruleIs 9 = .ok (.imul, 1) := by decide +kernel
theorem dX11_ruleIs_10 : decode cX11_ruleIs 10 = .ok (.iadd, 1) := by decide +kernel
theorem dX11_ruleIs_11 : decode cX11_ruleIs 11 = .ok (.iload_n 2, 1) := by decide +kernel
theorem dX11_ruleIs_12 : decode cX11_ruleIs 12 = .ok (.iadd, 1) := by decide +kernel
theorem dX11_ruleIs_13 : decode cX11_ruleIs 13 = .ok (.iaload, 1) := by decide +kernel
theorem dX11_ruleIs_14 : decode cX11_ruleIs 14 = .ok (.ireturn, 1) := by decide +kernel
theorem dX11_isRule_0 : decode cX11_isRule 0 = .ok (.iload_n 1, 1) := by decide +kernel
theorem dX11_isRule_1 : decode cX11_isRule 1 = .ok (.iconst 0, 1) := by decide +kernel
theorem dX11_isRule_2 : decode cX11_isRule 2 = .ok (.aload_n 0, 1) := by decide +kernel
theorem dX11_isRule_3 : decode cX11_isRule 3 = .ok (.getfield 7, 3) := by decide +kernel
theorem dX11_isRule_6 : decode cX11_isRule 6 = .ok (.sipush 240, 3) := by decide +kernel
theorem dX11_isRule_9 : decode cX11_isRule 9 = .ok (.iaload, 1) := by decide +kernel
theorem dX11_isRule_10 : decode cX11_isRule 10 = .ok (.iconst 1, 1) := by decide +kernel
theorem dX11_isRule_11 : decode cX11_isRule 11 = .ok (.isub, 1) := by decide +kernel
theorem dX11_isRule_12 : decode cX11_isRule 12 = .ok (.invokestatic 84, 3) := by decide +kernel
theorem dX11_isRule_15 : decode cX11_isRule 15 = .ok (.ireturn, 1) := by decide +kernel
theorem dX11_rule_0 : decode cX11_rule 0 = .ok (.iload_n 1, 1) := by decide +kernel
theorem dX11_rule_1 : decode cX11_rule 1 = .ok (.iconst 0, 1) := by decide +kernel
theorem dX11_rule_2 : decode cX11_rule 2 = .ok (.iconst 4, 1) := by decide +kernel
theorem dX11_rule_3 : decode cX11_rule 3 = .ok (.invokestatic 84, 3) := by decide +kernel
theorem dX11_rule_6 : decode cX11_rule 6 = .ok (.ifCond .eq 42, 3) := by decide +kernel
theorem dX11_rule_9 : decode cX11_rule 9 = .ok (.iload_n 2, 1) := by decide +kernel
theorem dX11_rule_10 : decode cX11_rule 10 = .ok (.iload_n 3, 1) := by decide +kernel
theorem dX11_rule_11 : decode cX11_rule 11 = .ok (.invokestatic 173, 3) := by decide +kernel
theorem dX11_rule_14 : decode cX11_rule 14 = .ok (.ifCond .eq 34, 3) := by decide +kernel
theorem dX11_rule_17 : decode cX11_rule 17 = .ok (.iload_n 1, 1) := by decide +kernel
theorem dX11_rule_18 : decode cX11_rule 18 = .ok (.ifCond .ne 14, 3) := by decide +kernel
