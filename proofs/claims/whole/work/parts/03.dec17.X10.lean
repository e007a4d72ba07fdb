theorem dX10_sheet_63 : decode cX10_sheet 63 = .ok (.invokevirtual 323, 3) := by decide +kernel
theorem dX10_sheet_66 : decode cX10_sheet 66 = .ok (.iconst 1, 1) := by decide +kernel
theorem dX10_sheet_67 : decode cX10_sheet 67 = .ok (.ireturn, 1) := by decide +kernel
theorem dX10_write_0 : decode cX10_write 0 = .ok (.aload_n 0, 1) := by decide +kernel
theorem dX10_write_1 : decode cX10_write 1 = .ok (.iload_n 1, 1) := by decide +kernel
theorem dX10_write_2 : decode cX10_write 2 = .ok (.iload_n 2, 1) := by decide +kernel
theorem dX10_write_3 : decode cX10_write 3 = .ok (.invokevirtual 355, 3) := by decide +kernel
theorem dX10_write_6 : decode cX10_write 6 = .ok (.istore 4, 2) := by decide +kernel
theorem dX10_write_8 : decode cX10_write 8 = .ok (.iload 4, 2) := by decide +kernel
theorem dX10_write_10 : decode cX10_write 10 = .ok (.ifCond .eq 6, 3) := by decide +kernel
theorem dX10_write_13 : decode cX10_write 13 = .ok (.iload 4, 2) := by decide +kernel
theorem dX10_write_15 : decode cX10_write 15 = .ok (.ireturn, 1) := by decide +kernel
theorem dX10_write_16 : decode cX10_write 16 = .ok (.aload_n 0, 1) := by decide +kernel
theorem dX10_write_17 : decode cX10_write 17 = .ok (.getfield 59, 3) := by decide +kernel
theorem dX10_write_20 : decode cX10_write 20 = .ok (.iload_n 1, 1) := by decide +kernel
theorem dX10_write_21 : decode cX10_write 21 = .ok (.aaload, 1) := by decide +kernel
theorem dX10_write_22 : decode cX10_write 22 = .ok (.getfield 358, 3) := by decide +kernel
theorem dX10_write_25 : decode cX10_write 25 = .ok (.iload_n 2, 1) := by decide +kernel
theorem dX10_write_26 : decode cX10_write 26 = .ok (.aload_n 0, 1) := by decide +kernel
theorem dX10_write_27 : decode cX10_write 27 = .ok (.getfield 59, 3) := by decide +kernel
theorem dX10_write_30 : decode cX10_write 30 = .ok (.iload_n 1, 1) := by decide +kernel
theorem dX10_write_31 : decode cX10_write 31 = .ok (.aaload, 1) := by decide +kernel
theorem dX10_write_32 : decode cX10_write 32 = .ok (.getfield 361, 3) := by decide +kernel
theorem dX10_write_35 : decode cX10_write 35 = .ok (.ifCond .ne 8, 3) := by decide +kernel
theorem dX10_write_38 : decode cX10_write 38 = .ok (.iload_n 3, 1) := by decide +kernel
theorem dX10_write_39 : decode cX10_write 39 = .ok (.i2b, 1) := by decide +kernel
theorem dX10_write_40 : decode cX10_write 40 = .ok (.goto 4, 3) := by decide +kernel
theorem dX10_write_43 : decode cX10_write 43 = .ok (.iload_n 3, 1) := by decide +kernel
theorem dX10_write_44 : decode cX10_write 44 = .ok (.iastore, 1) := by decide +kernel
theorem dX10_write_45 : decode cX10_write 45 = .ok (.iconst 1, 1) := by decide +kernel
theorem dX10_write_46 : decode cX10_write 46 = .ok (.ireturn, 1) := by decide +kernel
theorem dX10_item_0 : decode cX10_item 0 = .ok (.aload_n 0, 1) := by decide +kernel
theorem dX10_item_1 : decode cX10_item 1 = .ok (.iload_n 1, 1) := by decide +kernel
theorem dX10_item_2 : decode cX10_item 2 = .ok (.iload_n 2, 1) := by decide +kernel
theorem dX10_item_3 : decode cX10_item 3 = .ok (.invokevirtual 355, 3) := by decide +kernel
theorem dX10_item_6 : decode cX10_item 6 = .ok (.istore_n 3, 1) := by decide +kernel
theorem dX10_item_7 : decode cX10_item 7 = .ok (.iload_n 3, 1) := by decide +kernel
theorem dX10_item_8 : decode cX10_item 8 = .ok (.ifCond .eq 7, 3) := by decide +kernel
theorem dX10_item_11 : decode cX10_item 11 = .ok (.iload_n 3, 1) := by decide +kernel
theorem dX10_item_12 : decode cX10_item 12 = .ok (.goto 14, 3) := by decide +kernel
theorem dX10_item_15 : decode cX10_item 15 = .ok (.aload_n 0, 1) := by decide +kernel
theorem dX10_item_16 : decode cX10_item 16 = .ok (.getfield 59, 3) := by decide +kernel
theorem dX10_item_19 : decode cX10_item 19 = .ok (.iload_n 1, 1) := by decide +kernel
theorem dX10_item_20 : decode cX10_item 20 = .ok (.aaload, 1) := by decide +kernel
theorem dX10_item_21 : decode cX10_item 21 = .ok (.getfield 358, 3) := by decide +kernel
theorem dX10_item_24 : decode cX10_item 24 = .ok (.iload_n 2, 1) := by decide +kernel
theorem dX10_item_25 : decode cX10_item 25 = .ok (.iaload, 1) := by decide +kernel
theorem dX10_item_26 : decode cX10_item 26 = .ok (.ireturn, 1) := by decide +kernel
theorem dX10_copy_0 : decode cX10_copy 0 = .ok (.iload_n 1, 1) := by decide +kernel
theorem dX10_copy_1 : decode cX10_copy 1 = .ok (.iconst 0, 1) := by decide +kernel
theorem dX10_copy_2 : decode cX10_copy 2 = .ok (.iconst 3, 1) := by decide +kernel
theorem dX10_copy_3 : decode cX10_copy 3 = .ok (.invokestatic 82, 3) := by decide +kernel
theorem dX10_copy_6 : decode cX10_copy 6 = .ok (.ifCond .eq 12, 3) := by decide +kernel
theorem dX10_copy_9 : decode cX10_copy 9 = .ok (.iload_n 3, 1) := by decide +kernel
theorem dX10_copy_10 : decode cX10_copy 10 = .ok (.iconst 0, 1) := by decide +kernel
theorem dX10_copy_11 : decode cX10_copy 11 = .ok (.iconst 3, 1) := by decide +kernel
theorem dX10_copy_12 : decode cX10_copy 12 = .ok (.invokestatic 82, 3) := by decide +kernel
theorem dX10_copy_15 : decode cX10_copy 15 = .ok (.ifCond .ne 6, 3) := by decide +kernel
theorem dX10_copy_18 : decode cX10_copy 18 = .ok (.bipush (-2), 2) := by decide +kernel
theorem dX10_copy_20 : decode cX10_copy 20 = .ok (.ireturn, 1) := by decide +kernel
theorem dX10_copy_21 : decode cX10_copy 21 = .ok (.aload_n 0, 1) := by decide +kernel
theorem dX10_copy_22 : decode cX10_copy 22 = .ok (.getfield 59, 3) := by decide +kernel
theorem dX10_copy_25 : decode cX10_copy 25 = .ok (.iload_n 1, 1) := by decide +kernel
theorem dX10_copy_26 : decode cX10_copy 26 = .ok (.aaload, 1) := by decide +kernel
theorem dX10_copy_27 : decode cX10_copy 27 = .ok (.astore 6, 2) := by decide +kernel
theorem dX10_copy_29 : decode cX10_copy 29 = .ok (.aload_n 0, 1) := by decide +kernel
theorem dX10_copy_30 : decode cX10_copy 30 = .ok (.getfield 59, 3) := by decide +kernel
theorem dX10_copy_33 : decode cX10_copy 33 = .ok (.iload_n 3, 1) := by decide +kernel
theorem dX10_copy_34 : decode cX10_copy 34 = .ok (.aaload, 1) := by decide +kernel
theorem dX10_copy_35 : decode cX10_copy 35 = .ok (.astore 7, 2) := by decide +kernel
theorem dX10_copy_37 : decode cX10_copy 37 = .ok (.aload 6, 2) := by decide +kernel
theorem dX10_copy_39 : decode cX10_copy 39 = .ok (.getfield 361, 3) := by decide +kernel
theorem dX10_copy_42 : decode cX10_copy 42 = .ok (.iconst (-1), 1) := by decide +kernel
theorem dX10_copy_43 : decode cX10_copy 43 = .ok (.if_icmp .eq 12, 3) := by decide +kernel
theorem dX10_copy_46 : decode cX10_copy 46 = .ok (.aload 7, 2) := by decide +kernel
theorem dX10_copy_48 : decode cX10_copy 48 = .ok (.getfield 361, 3) := by decide +kernel
theorem dX10_copy_51 : decode cX10_copy 51 = .ok (.iconst (-1), 1) := by decide +kernel
theorem dX10_copy_52 : decode cX10_copy 52 = .ok (.if_icmp .ne 6, 3) := by decide +kernel
theorem dX10_copy_55 : decode cX10_copy 55 = .ok (.bipush (-11), 2) := by decide +kernel
theorem dX10_copy_57 : decode cX10_copy 57 = .ok (.ireturn, 1) := by decide +kernel
theorem dX10_copy_58 : decode cX10_copy 58 = .ok (.aload 6, 2) := by decide +kernel
theorem dX10_copy_60 : decode cX10_copy 60 = .ok (.getfield 361, 3) := by decide +kernel
theorem dX10_copy_63 : decode cX10_copy 63 = .ok (.aload 7, 2) := by decide +kernel
theorem dX10_copy_65 : decode cX10_copy 65 = .ok (.getfield 361, 3) := by decide +kernel
theorem dX10_copy_68 : decode cX10_copy 68 = .ok (.if_icmp .eq 6, 3) := by decide +kernel
theorem dX10_copy_71 : decode cX10_copy 71 = .ok (.bipush (-13), 2) := by decide +kernel
theorem dX10_copy_73 : decode cX10_copy 73 = .ok (.ireturn, 1) := by decide +kernel
theorem dX10_copy_74 : decode cX10_copy 74 = .ok (.aload 6, 2) := by decide +kernel
theorem dX10_copy_76 : decode cX10_copy 76 = .ok (.iload_n 2, 1) := by decide +kernel
theorem dX10_copy_77 : decode cX10_copy 77 = .ok (.iload 5, 2) := by decide +kernel
theorem dX10_copy_79 : decode cX10_copy 79 = .ok (.invokevirtual 362, 3) := by decide +kernel
theorem dX10_copy_82 : decode cX10_copy 82 = .ok (.ifCond .eq 15, 3) := by decide +kernel
theorem dX10_copy_85 : decode cX10_copy 85 = .ok (.aload 7, 2) := by decide +kernel
theorem dX10_copy_87 : decode cX10_copy 87 = .ok (.iload 4, 2) := by decide +kernel
theorem dX10_copy_89 : decode cX10_copy 89 = .ok (.iload 5, 2) := by decide +kernel
theorem dX10_copy_91 : decode cX10_copy 91 = .ok (.invokevirtual 362, 3) := by decide +kernel
theorem dX10_copy_94 : decode cX10_copy 94 = .ok (.ifCond .ne 6, 3) := by decide +kernel
theorem dX10_copy_97 : decode cX10_copy 97 = .ok (.bipush (-12), 2) := by decide +kernel
theorem dX10_copy_99 : decode cX10_copy 99 = .ok (.ireturn, 1) := by decide +kernel
theorem dX10_copy_100 : decode cX10_copy 100 = .ok (.aload 6, 2) := by decide +kernel
theorem dX10_copy_102 : decode cX10_copy 102 = .ok (.getfield 358, 3) := by decide +kernel
theorem dX10_copy_105 : decode cX10_copy 105 = .ok (.iload_n 2, 1) := by decide +kernel
theorem dX10_copy_106 : decode cX10_copy 106 = .ok (.aload 7, 2) := by decide +kernel
theorem dX10_copy_108 : decode cX10_copy 108 = .ok (.getfield 358, 3) := by decide +kernel
theorem dX10_copy_111 : decode cX10_copy 111 = .ok (.iload 4, 2) := by decide +kernel
theorem dX10_copy_113 : decode cX10_copy 113 = .ok (.iload 5, 2) := by decide +kernel
theorem dX10_copy_115 : decode cX10_copy 115 = .ok (.invokestatic 365, 3) := by decide +kernel
theorem dX10_copy_118 : decode cX10_copy 118 = .ok (.iload 5, 2) := by decide +kernel
theorem dX10_copy_120 : decode cX10_copy 120 = .ok (.ireturn, 1) := by decide +kernel
theorem dX10_image_0 : decode cX10_image 0 = .ok (.aload_n 0, 1) := by decide +kernel
theorem dX10_image_1 : decode cX10_image 1 = .ok (.getfield 34, 3) := by decide +kernel
theorem dX10_image_4 : decode cX10_image 4 = .ok (.aload_n 0, 1) := by decide +kernel
theorem dX10_image_5 : decode cX10_image 5 = .ok (.getfield 20, 3) := by decide +kernel
theorem dX10_image_8 : decode cX10_image 8 = .ok (.invokevirtual 253, 3) := by decide +kernel
theorem dX10_image_11 : decode cX10_image 11 = .ok (.aload_n 0, 1) := by decide +kernel
theorem dX10_image_12 : decode cX10_image 12 = .ok (.iconst 1, 1) := by decide +kernel
theorem dX10_image_13 : decode cX10_image 13 = .ok (.putfield 371, 3) := by decide +kernel
theorem dX10_image_16 : decode cX10_image 16 = .ok (.aload_n 0, 1) := by decide +kernel
theorem dX10_image_17 : decode cX10_image 17 = .ok (.getfield 20, 3) := by decide +kernel
theorem dX10_image_20 : decode cX10_image 20 = .ok (.getfield 68, 3) := by decide +kernel
theorem dX10_image_23 : decode cX10_image 23 = .ok (.ireturn, 1) := by decide +kernel
theorem dX10_back_0 : decode cX10_back 0 = .ok (.aload_n 0, 1) := by decide +kernel
theorem dX10_back_1 : decode cX10_back 1 = .ok (.getfield 371, 3) := by decide +kernel
theorem dX10_back_4 : decode cX10_back 4 = .ok (.ifCond .ne 6, 3) := by decide +kernel
theorem dX10_back_7 : decode cX10_back 7 = .ok (.bipush (-3), 2) := by decide +kernel
theorem dX10_back_9 : decode cX10_back 9 = .ok (.ireturn, 1) := by decide +kernel
theorem dX10_back_10 : decode cX10_back 10 = .ok (.aload_n 0, 1) := by decide +kernel
theorem dX10_back_11 : decode cX10_back 11 = .ok (.getfield 20, 3) := by decide +kernel
theorem dX10_back_14 : decode cX10_back 14 = .ok (.aload_n 0, 1) := by decide +kernel
theorem dX10_back_15 : decode cX10_back 15 = .ok (.getfield 34, 3) := by decide +kernel
theorem dX10_back_18 : decode cX10_back 18 = .ok (.invokevirtual 253, 3) := by decide +kernel
theorem dX10_back_21 : decode cX10_back 21 = .ok (.aload_n 0, 1) := by decide +kernel
theorem dX10_back_22 : decode cX10_back 22 = .ok (.getfield 27, 3) := by decide +kernel
theorem dX10_back_25 : decode cX10_back 25 = .ok (.aload_n 0, 1) := by decide +kernel
theorem dX10_back_26 : decode cX10_back 26 = .ok (.getfield 20, 3) := by decide +kernel
theorem dX10_back_29 : decode cX10_back 29 = .ok (.iconst 5, 1) := by decide +kernel
theorem dX10_back_30 : decode cX10_back 30 = .ok (.invokevirtual 78, 3) := by decide +kernel
theorem dX10_back_33 : decode cX10_back 33 = .ok (.aload_n 0, 1) := by decide +kernel
theorem dX10_back_34 : decode cX10_back 34 = .ok (.getfield 20, 3) := by decide +kernel
theorem dX10_back_37 : decode cX10_back 37 = .ok (.getfield 68, 3) := by decide +kernel
theorem dX10_back_40 : decode cX10_back 40 = .ok (.ireturn, 1) := by decide +kernel
theorem dX10_count_0 : decode cX10_count 0 = .ok (.iload_n 1, 1) := by decide +kernel
theorem dX10_count_1 : decode cX10_count 1 = .ok (.tableswitch 111 0 7 #[47, 55, 63, 71, 79, 87, 95, 103], 47) := by decide +kernel
theorem dX10_count_48 : decode cX10_count 48 = .ok (.aload_n 0, 1) := by decide +kernel
theorem dX10_count_49 : decode cX10_count 49 = .ok (.getfield 20, 3) := by decide +kernel
theorem dX10_count_52 : decode cX10_count 52 = .ok (.getfield 68, 3) := by decide +kernel
theorem dX10_count_55 : decode cX10_count 55 = .ok (.ireturn, 1) := by decide +kernel
theorem dX10_count_56 : decode cX10_count 56 = .ok (.aload_n 0, 1) := by decide +kernel
theorem dX10_count_57 : decode cX10_count 57 = .ok (.getfield 20, 3) := by decide +kernel
theorem dX10_count_60 : decode cX10_count 60 = .ok (.invokevirtual 374, 3) := by decide +kernel
theorem dX10_count_63 : decode cX10_count 63 = .ok (.ireturn, 1) := by decide +kernel
theorem dX10_count_64 : decode cX10_count 64 = .ok (.aload_n 0, 1) := by decide +kernel
theorem dX10_count_65 : decode cX10_count 65 = .ok (.getfield 20, 3) := by decide +kernel
theorem dX10_count_68 : decode cX10_count 68 = .ok (.getfield 161, 3) := by decide +kernel
theorem dX10_count_71 : decode cX10_count 71 = .ok (.ireturn, 1) := by decide +kernel
theorem dX10_count_72 : decode cX10_count 72 = .ok (.aload_n 0, 1) := by decide +kernel
theorem dX10_count_73 : decode cX10_count 73 = .ok (.getfield 20, 3) := by decide +kernel
theorem dX10_count_76 : decode cX10_count 76 = .ok (.getfield 205, 3) := by decide +kernel
theorem dX10_count_79 : decode cX10_count 79 = .ok (.ireturn, 1) := by decide +kernel
theorem dX10_count_80 : decode cX10_count 80 = .ok (.aload_n 0, 1) := by decide +kernel
theorem dX10_count_81 : decode cX10_count 81 = .ok (.getfield 20, 3) := by decide +kernel
theorem dX10_count_84 : decode cX10_count 84 = .ok (.getfield 231, 3) := by decide +kernel
theorem dX10_count_87 : decode cX10_count 87 = .ok (.ireturn, 1) := by decide +kernel
theorem dX10_count_88 : decode cX10_count 88 = .ok (.aload_n 0, 1) := by decide +kernel
theorem dX10_count_89 : decode cX10_count 89 = .ok (.getfield 20, 3) := by decide +kernel
theorem dX10_count_92 : decode cX10_count 92 = .ok (.getfield 292, 3) := by decide +kernel
theorem dX10_count_95 : decode cX10_count 95 = .ok (.ireturn, 1) := by decide +kernel
theorem dX10_count_96 : decode cX10_count 96 = .ok (.aload_n 0, 1) := by decide +kernel
theorem dX10_count_97 : decode cX10_count 97 = .ok (.getfield 53, 3) := by decide +kernel
theorem dX10_count_100 : decode cX10_count 100 = .ok (.getfield 301, 3) := by decide +kernel
theorem dX10_count_103 : decode cX10_count 103 = .ok (.ireturn, 1) := by decide +kernel
theorem dX10_count_104 : decode cX10_count 104 = .ok (.aload_n 0, 1) := by decide +kernel
theorem dX10_count_105 : decode cX10_count 105 = .ok (.getfield 20, 3) := by decide +kernel
theorem dX10_count_108 : decode cX10_count 108 = .ok (.getfield 349, 3) := by decide +kernel
theorem dX10_count_111 : decode cX10_count 111 = .ok (.ireturn, 1) := by decide +kernel
theorem dX10_count_112 : decode cX10_count 112 = .ok (.bipush (-2), 2) := by decide +kernel
theorem dX10_count_114 : decode cX10_count 114 = .ok (.ireturn, 1) := by decide +kernel
theorem dX10_refuseLoop_0 : decode cX10_refuseLoop 0 = .ok (.iload_n 1, 1) := by decide +kernel
theorem dX10_refuseLoop_1 : decode cX10_refuseLoop 1 = .ok (.bipush (-5), 2) := by decide +kernel
theorem dX10_refuseLoop_3 : decode cX10_refuseLoop 3 = .ok (.if_icmp .eq 5, 3) := by decide +kernel
theorem dX10_refuseLoop_6 : decode cX10_refuseLoop 6 = .ok (.iload_n 1, 1) := by decide +kernel
theorem dX10_refuseLoop_7 : decode cX10_refuseLoop 7 = .ok (.ireturn, 1) := by decide +kernel
theorem dX10_refuseLoop_8 : decode cX10_refuseLoop 8 = .ok (.aload_n 0, 1) := by decide +kernel
theorem dX10_refuseLoop_9 : decode cX10_refuseLoop 9 = .ok (.bipush 40, 2) := by decide +kernel
theorem dX10_refuseLoop_11 : decode cX10_refuseLoop 11 = .ok (.putfield 75, 3) := by decide +kernel
theorem dX10_refuseLoop_14 : decode cX10_refuseLoop 14 = .ok (.aload_n 0, 1) := by decide +kernel
theorem dX10_refuseLoop_15 : decode cX10_refuseLoop 15 = .ok (.getfield 10, 3) := by decide +kernel
theorem dX10_refuseLoop_18 : decode cX10_refuseLoop 18 = .ok (.getfield 377, 3) := by decide +kernel
theorem dX10_refuseLoop_21 : decode cX10_refuseLoop 21 = .ok (.iconst 0, 1) := by decide +kernel
theorem dX10_refuseLoop_22 : decode cX10_refuseLoop 22 = .ok (.aload_n 0, 1) := by decide +kernel
theorem dX10_refuseLoop_23 : decode cX10_refuseLoop 23 = .ok (.getfield 63, 3) := by decide +kernel
theorem dX10_refuseLoop_26 : decode cX10_refuseLoop 26 = .ok (.iconst 0, 1) := by decide +kernel
theorem dX10_refuseLoop_27 : decode cX10_refuseLoop 27 = .ok (.bipush 40, 2) := by decide +kernel
theorem dX10_refuseLoop_29 : decode cX10_refuseLoop 29 = .ok (.invokestatic 365, 3) := by decide +kernel
theorem dX10_refuseLoop_32 : decode cX10_refuseLoop 32 = .ok (.aload_n 0, 1) := by decide +kernel
theorem dX10_refuseLoop_33 : decode cX10_refuseLoop 33 = .ok (.getfield 20, 3) := by decide +kernel
theorem dX10_refuseLoop_36 : decode cX10_refuseLoop 36 = .ok (.aload_n 0, 1) := by decide +kernel
theorem dX10_refuseLoop_37 : decode cX10_refuseLoop 37 = .ok (.getfield 31, 3) := by decide +kernel
theorem dX10_refuseLoop_40 : decode cX10_refuseLoop 40 = .ok (.invokevirtual 253, 3) := by decide +kernel
theorem dX10_refuseLoop_43 : decode cX10_refuseLoop 43 = .ok (.aload_n 0, 1) := by decide +kernel
theorem dX10_refuseLoop_44 : decode cX10_refuseLoop 44 = .ok (.getfield 27, 3) := by decide +kernel
theorem dX10_refuseLoop_47 : decode cX10_refuseLoop 47 = .ok (.aload_n 0, 1) := by decide +kernel
theorem dX10_refuseLoop_48 : decode cX10_refuseLoop 48 = .ok (.getfield 20, 3) := by decide +kernel
theorem dX10_refuseLoop_51 : decode cX10_refuseLoop 51 = .ok (.iconst 5, 1) := by decide +kernel
theorem dX10_refuseLoop_52 : decode cX10_refuseLoop 52 = .ok (.invokevirtual 78, 3) := by decide +kernel
theorem dX10_refuseLoop_55 : decode cX10_refuseLoop 55 = .ok (.bipush (-5), 2) := by decide +kernel
theorem dX10_refuseLoop_57 : decode cX10_refuseLoop 57 = .ok (.ireturn, 1) := by decide +kernel
theorem dX10_refusePlace_0 : decode cX10_refusePlace 0 = .ok (.iload_n 1, 1) := by decide +kernel
theorem dX10_refusePlace_1 : decode cX10_refusePlace 1 = .ok (.iconst 0, 1) := by decide +kernel
theorem dX10_refusePlace_2 : decode cX10_refusePlace 2 = .ok (.iconst 3, 1) := by decide +kernel
theorem dX10_refusePlace_3 : decode cX10_refusePlace 3 = .ok (.invokestatic 82, 3) := by decide +kernel
theorem dX10_refusePlace_6 : decode cX10_refusePlace 6 = .ok (.ifCond .ne 6, 3) := by decide +kernel
theorem dX10_refusePlace_9 : decode cX10_refusePlace 9 = .ok (.bipush (-2), 2) := by decide +kernel
theorem dX10_refusePlace_11 : decode cX10_refusePlace 11 = .ok (.ireturn, 1) := by decide +kernel
theorem dX10_refusePlace_12 : decode cX10_refusePlace 12 = .ok (.aload_n 0, 1) := by decide +kernel
theorem dX10_refusePlace_13 : decode cX10_refusePlace 13 = .ok (.getfield 59, 3) := by decide +kernel
theorem dX10_refusePlace_16 : decode cX10_refusePlace 16 = .ok (.iload_n 1, 1) := by decide +kernel
theorem dX10_refusePlace_17 : decode cX10_refusePlace 17 = .ok (.aaload, 1) := by decide +kernel
theorem dX10_refusePlace_18 : decode cX10_refusePlace 18 = .ok (.getfield 361, 3) := by decide +kernel
theorem dX10_refusePlace_21 : decode cX10_refusePlace 21 = .ok (.iconst (-1), 1) := by decide +kernel
theorem dX10_refusePlace_22 : decode cX10_refusePlace 22 = .ok (.if_icmp .ne 6, 3) := by decide +kernel
theorem dX10_refusePlace_25 : decode cX10_refusePlace 25 = .ok (.bipush (-11), 2) := by decide +kernel
theorem dX10_refusePlace_27 : decode cX10_refusePlace 27 = .ok (.ireturn, 1) := by decide +kernel
theorem dX10_refusePlace_28 : decode cX10_refusePlace 28 = .ok (.iload_n 2, 1) := by decide +kernel
theorem dX10_refusePlace_29 : decode cX10_refusePlace 29 = .ok (.iconst 0, 1) := by decide +kernel
theorem dX10_refusePlace_30 : decode cX10_refusePlace 30 = .ok (.aload_n 0, 1) := by decide +kernel
theorem dX10_refusePlace_31 : decode cX10_refusePlace 31 = .ok (.getfield 59, 3) := by decide +kernel
theorem dX10_refusePlace_34 : decode cX10_refusePlace 34 = .ok (.iload_n 1, 1) := by decide +kernel
theorem dX10_refusePlace_35 : decode cX10_refusePlace 35 = .ok (.aaload, 1) := by decide +kernel
theorem dX10_refusePlace_36 : decode cX10_refusePlace 36 = .ok (.getfield 348, 3) := by decide +kernel
theorem dX10_refusePlace_39 : decode cX10_refusePlace 39 = .ok (.iconst 1, 1) := by decide +kernel
theorem dX10_refusePlace_40 : decode cX10_refusePlace 40 = .ok (.isub, 1) := by decide +kernel
theorem dX10_refusePlace_41 : decode cX10_refusePlace 41 = .ok (.invokestatic 82, 3) := by decide +kernel
theorem dX10_refusePlace_44 : decode cX10_refusePlace 44 = .ok (.ifCond .eq 7, 3) := by decide +kernel
theorem dX10_refusePlace_47 : decode cX10_refusePlace 47 = .ok (.iconst 0, 1) := by decide +kernel
theorem dX10_refusePlace_48 : decode cX10_refusePlace 48 = .ok (.goto 5, 3) := by decide +kernel
theorem dX10_refusePlace_51 : decode cX10_refusePlace 51 = .ok (.bipush (-12), 2) := by decide +kernel
theorem dX10_refusePlace_53 : decode cX10_refusePlace 53 = .ok (.ireturn, 1) := by decide +kernel
theorem dX10_within_0 : decode cX10_within 0 = .ok (.iload_n 0, 1) := by decide +kernel
theorem dX10_within_1 : decode cX10_within 1 = .ok (.iload_n 1, 1) := by decide +kernel
theorem dX10_within_2 : decode cX10_within 2 = .ok (.if_icmp .lt 12, 3) := by decide +kernel
theorem dX10_within_5 : decode cX10_within 5 = .ok (.iload_n 0, 1) := by decide +kernel
theorem dX10_within_6 : decode cX10_within 6 = .ok (.iload_n 2, 1) := by decide +kernel
theorem dX10_within_7 : decode cX10_within 7 = .ok (.if_icmp .gt 7, 3) := by decide +kernel
theorem dX10_within_10 : decode cX10_within 10 = .ok (.iconst 1, 1) := by decide +kernel
theorem dX10_within_11 : decode cX10_within 11 = .ok (.goto 4, 3) := by decide +kernel
theorem dX10_within_14 : decode cX10_within 14 = .ok (.iconst 0, 1) := by decide +kernel
theorem dX10_within_15 : decode cX10_within 15 = .ok (.ireturn, 1) := by decide +kernel
theorem dX10_isScope_0 : decode cX10_isScope 0 = .ok (.iload_n 0, 1) := by decide +kernel
theorem dX10_isScope_1 : decode cX10_isScope 1 = .ok (.iconst 0, 1) := by decide +kernel
theorem dX10_isScope_2 : decode cX10_isScope 2 = .ok (.iconst 5, 1) := by decide +kernel
theorem dX10_isScope_3 : decode cX10_isScope 3 = .ok (.invokestatic 82, 3) := by decide +kernel
theorem dX10_isScope_6 : decode cX10_isScope 6 = .ok (.ifCond .ne 5, 3) := by decide +kernel
theorem dX10_isScope_9 : decode cX10_isScope 9 = .ok (.iconst 0, 1) := by decide +kernel
theorem dX10_isScope_10 : decode cX10_isScope 10 = .ok (.ireturn, 1) := by decide +kernel
theorem dX10_isScope_11 : decode cX10_isScope 11 = .ok (.iload_n 0, 1) := by decide +kernel
theorem dX10_isScope_12 : decode cX10_isScope 12 = .ok (.ifCond .eq 16, 3) := by decide +kernel
theorem dX10_isScope_15 : decode cX10_isScope 15 = .ok (.iload_n 1, 1) := by decide +kernel
theorem dX10_isScope_16 : decode cX10_isScope 16 = .ok (.iconst 0, 1) := by decide +kernel
theorem dX10_isScope_17 : decode cX10_isScope 17 = .ok (.getstatic 380, 3) := by decide +kernel
theorem dX10_isScope_20 : decode cX10_isScope 20 = .ok (.iload_n 0, 1) := by decide +kernel
theorem dX10_isScope_21 : decode cX10_isScope 21 = .ok (.iaload, 1) := by decide +kernel
theorem dX10_isScope_22 : decode cX10_isScope 22 = .ok (.invokestatic 82, 3) := by decide +kernel
theorem dX10_isScope_25 : decode cX10_isScope 25 = .ok (.ifCond .eq 7, 3) := by decide +kernel
theorem dX10_isScope_28 : decode cX10_isScope 28 = .ok (.iconst 1, 1) := by decide +kernel
theorem dX10_isScope_29 : decode cX10_isScope 29 = .ok (.goto 4, 3) := by decide +kernel
theorem dX10_isScope_32 : decode cX10_isScope 32 = .ok (.iconst 0, 1) := by decide +kernel
theorem dX10_isScope_33 : decode cX10_isScope 33 = .ok (.ireturn, 1) := by decide +kernel
theorem dX10_fitsBase_0 : decode cX10_fitsBase 0 = .ok (.iload_n 0, 1) := by decide +kernel
theorem dX10_fitsBase_1 : decode cX10_fitsBase 1 = .ok (.tableswitch 63 1 4 #[31, 38, 46, 54], 31) := by decide +kernel
theorem dX10_fitsBase_32 : decode cX10_fitsBase 32 = .ok (.iload_n 1, 1) := by decide +kernel
theorem dX10_fitsBase_33 : decode cX10_fitsBase 33 = .ok (.iconst 0, 1) := by decide +kernel
theorem dX10_fitsBase_34 : decode cX10_fitsBase 34 = .ok (.iconst 5, 1) := by decide +kernel
theorem dX10_fitsBase_35 : decode cX10_fitsBase 35 = .ok (.invokestatic 82, 3) := by decide +kernel
theorem dX10_fitsBase_38 : decode cX10_fitsBase 38 = .ok (.ireturn, 1) := by decide +kernel
theorem dX10_fitsBase_39 : decode cX10_fitsBase 39 = .ok (.iload_n 1, 1) := by decide +kernel
theorem dX10_fitsBase_40 : decode cX10_fitsBase 40 = .ok (.iconst 0, 1) := by decide +kernel
theorem dX10_fitsBase_41 : decode cX10_fitsBase 41 = .ok (.bipush 99, 2) := by decide +kernel
theorem dX10_fitsBase_43 : decode cX10_fitsBase 43 = .ok (.invokestatic 82, 3) := by decide +kernel
theorem dX10_fitsBase_46 : decode cX10_fitsBase 46 = .ok (.ireturn, 1) := by decide +kernel
theorem dX10_fitsBase_47 : decode cX10_fitsBase 47 = .ok (.iload_n 1, 1) := by decide +kernel
theorem dX10_fitsBase_48 : decode cX10_fitsBase 48 = .ok (.iconst 0, 1) := by decide +kernel
theorem dX10_fitsBase_49 : decode cX10_fitsBase 49 = .ok (.bipush 99, 2) := by decide +kernel
theorem dX10_fitsBase_51 : decode cX10_fitsBase 51 = .ok (.invokestatic 82, 3) := by decide +kernel
theorem dX10_fitsBase_54 : decode cX10_fitsBase 54 = .ok (.ireturn, 1) := by decide +kernel
theorem dX10_fitsBase_55 : decode cX10_fitsBase 55 = .ok (.iload_n 1, 1) := by decide +kernel
theorem dX10_fitsBase_56 : decode cX10_fitsBase 56 = .ok (.iconst 0, 1) := by decide +kernel
theorem dX10_fitsBase_57 : decode cX10_fitsBase 57 = .ok (.sipush 999, 3) := by decide +kernel
theorem dX10_fitsBase_60 : decode cX10_fitsBase 60 = .ok (.invokestatic 82, 3) := by decide +kernel
theorem dX10_fitsBase_63 : decode cX10_fitsBase 63 = .ok (.ireturn, 1) := by decide +kernel
theorem dX10_fitsBase_64 : decode cX10_fitsBase 64 = .ok (.iconst 0, 1) := by decide +kernel
theorem dX10_fitsBase_65 : decode cX10_fitsBase 65 = .ok (.ireturn, 1) := by decide +kernel
theorem dX10_fitsEffect_0 : decode cX10_fitsEffect 0 = .ok (.iload_n 0, 1) := by decide +kernel
theorem dX10_fitsEffect_1 : decode cX10_fitsEffect 1 = .ok (.iconst 2, 1) := by decide +kernel
theorem dX10_fitsEffect_2 : decode cX10_fitsEffect 2 = .ok (.if_icmp .gt 12, 3) := by decide +kernel
theorem dX10_fitsEffect_5 : decode cX10_fitsEffect 5 = .ok (.iload_n 1, 1) := by decide +kernel
theorem dX10_fitsEffect_6 : decode cX10_fitsEffect 6 = .ok (.iconst 0, 1) := by decide +kernel
theorem dX10_fitsEffect_7 : decode cX10_fitsEffect 7 = .ok (.iconst 5, 1) := by decide +kernel
theorem dX10_fitsEffect_8 : decode cX10_fitsEffect 8 = .ok (.invokestatic 82, 3) := by decide +kernel
theorem dX10_fitsEffect_11 : decode cX10_fitsEffect 11 = .ok (.goto 11, 3) := by decide +kernel
theorem dX10_fitsEffect_14 : decode cX10_fitsEffect 14 = .ok (.iload_n 1, 1) := by decide +kernel
theorem dX10_fitsEffect_15 : decode cX10_fitsEffect 15 = .ok (.bipush (-9), 2) := by decide +kernel
theorem dX10_fitsEffect_17 : decode cX10_fitsEffect 17 = .ok (.bipush 9, 2) := by decide +kernel
theorem dX10_fitsEffect_19 : decode cX10_fitsEffect 19 = .ok (.invokestatic 82, 3) := by decide +kernel
theorem dX10_fitsEffect_22 : decode cX10_fitsEffect 22 = .ok (.ireturn, 1) := by decide +kernel
theorem dX10_scopeWord_0 : decode cX10_scopeWord 0 = .ok (.iload_n 0, 1) := by decide +kernel
theorem dX10_scopeWord_1 : decode cX10_scopeWord 1 = .ok (.tableswitch 55 0 4 #[35, 39, 43, 47, 51], 35) := by decide +kernel
theorem dX10_scopeWord_36 : decode cX10_scopeWord 36 = .ok (.ldc_w 383, 3) := by decide +kernel
theorem dX10_scopeWord_39 : decode cX10_scopeWord 39 = .ok (.areturn, 1) := by decide +kernel
theorem dX10_scopeWord_40 : decode cX10_scopeWord 40 = .ok (.ldc_w 385, 3) := by decide +kernel
theorem dX10_scopeWord_43 : decode cX10_scopeWord 43 = .ok (.areturn, 1) := by decide +kernel
theorem dX10_scopeWord_44 : decode cX10_scopeWord 44 = .ok (.ldc_w 386, 3) := by decide +kernel
theorem dX10_scopeWord_47 : decode cX10_scopeWord 47 = .ok (.areturn, 1) := by decide +kernel
theorem dX10_scopeWord_48 : decode cX10_scopeWord 48 = .ok (.ldc_w 387, 3) := by decide +kernel
theorem dX10_scopeWord_51 : decode cX10_scopeWord 51 = .ok (.areturn, 1) := by decide +kernel
theorem dX10_scopeWord_52 : decode cX10_scopeWord 52 = .ok (.ldc_w 389, 3) := by decide +kernel
theorem dX10_scopeWord_55 : decode cX10_scopeWord 55 = .ok (.areturn, 1) := by decide +kernel
theorem dX10_scopeWord_56 : decode cX10_scopeWord 56 = .ok (.ldc_w 391, 3) := by decide +kernel
theorem dX10_scopeWord_59 : decode cX10_scopeWord 59 = .ok (.areturn, 1) := by decide +kernel
theorem dX10_deedWord_0 : decode cX10_deedWord 0 = .ok (.iload_n 0, 1) := by decide +kernel
theorem dX10_deedWord_1 : decode cX10_deedWord 1 = .ok (.tableswitch 55 0 4 #[35, 39, 43, 47, 51], 35) := by decide +kernel
theorem dX10_deedWord_36 : decode cX10_deedWord 36 = .ok (.ldc_w 393, 3) := by decide +kernel
theorem dX10_deedWord_39 : decode cX10_deedWord 39 = .ok (.areturn, 1) := by decide +kernel
theorem dX10_deedWord_40 : decode cX10_deedWord 40 = .ok (.ldc_w 395, 3) := by decide +kernel
theorem dX10_deedWord_43 : decode cX10_deedWord 43 = .ok (.areturn, 1) := by decide +kernel
theorem dX10_deedWord_44 : decode cX10_deedWord 44 = .ok (.ldc_w 397, 3) := by decide +kernel
theorem dX10_deedWord_47 : decode cX10_deedWord 47 = .ok (.areturn, 1) := by decide +kernel
theorem dX10_deedWord_48 : decode cX10_deedWord 48 = .ok (.ldc_w 399, 3) := by decide +kernel
theorem dX10_deedWord_51 : decode cX10_deedWord 51 = .ok (.areturn, 1) := by decide +kernel
theorem dX10_deedWord_52 : decode cX10_deedWord 52 = .ok (.ldc_w 401, 3) := by decide +kernel
theorem dX10_deedWord_55 : decode cX10_deedWord 55 = .ok (.areturn, 1) := by decide +kernel
theorem dX10_deedWord_56 : decode cX10_deedWord 56 = .ok (.ldc_w 403, 3) := by decide +kernel
theorem dX10_deedWord_59 : decode cX10_deedWord 59 = .ok (.areturn, 1) := by decide +kernel
