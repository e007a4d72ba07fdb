theorem dX5_init_0 : decode cX5_init 0 = .ok (.aload_n 0, 1) := by decide +kernel
theorem dX5_init_1 : decode cX5_init 1 = .ok (.invokespecial 3, 3) := by decide +kernel
theorem dX5_init_4 : decode cX5_init 4 = .ok (.aload_n 0, 1) := by decide +kernel
theorem dX5_init_5 : decode cX5_init 5 = .ok (.iconst (-1), 1) := by decide +kernel
theorem dX5_init_6 : decode cX5_init 6 = .ok (.putfield 9, 3) := by decide +kernel
theorem dX5_init_9 : decode cX5_init 9 = .ok (.aload_n 0, 1) := by decide +kernel
theorem dX5_init_10 : decode cX5_init 10 = .ok (.bipush 40, 2) := by decide +kernel
theorem dX5_init_12 : decode cX5_init 12 = .ok (.newarray .int, 2) := by decide +kernel
theorem dX5_init_14 : decode cX5_init 14 = .ok (.putfield 15, 3) := by decide +kernel
theorem dX5_init_17 : decode cX5_init 17 = .ok (.return_, 1) := by decide +kernel
theorem dX5_become_0 : decode cX5_become 0 = .ok (.aload_n 0, 1) := by decide +kernel
theorem dX5_become_1 : decode cX5_become 1 = .ok (.iload_n 1, 1) := by decide +kernel
theorem dX5_become_2 : decode cX5_become 2 = .ok (.putfield 9, 3) := by decide +kernel
theorem dX5_become_5 : decode cX5_become 5 = .ok (.aload_n 0, 1) := by decide +kernel
theorem dX5_become_6 : decode cX5_become 6 = .ok (.iload_n 2, 1) := by decide +kernel
theorem dX5_become_7 : decode cX5_become 7 = .ok (.putfield 19, 3) := by decide +kernel
theorem dX5_become_10 : decode cX5_become 10 = .ok (.iconst 0, 1) := by decide +kernel
theorem dX5_become_11 : decode cX5_become 11 = .ok (.istore_n 3, 1) := by decide +kernel
theorem dX5_become_12 : decode cX5_become 12 = .ok (.iload_n 3, 1) := by decide +kernel
theorem dX5_become_13 : decode cX5_become 13 = .ok (.bipush 40, 2) := by decide +kernel
theorem dX5_become_15 : decode cX5_become 15 = .ok (.if_icmp .ge 16, 3) := by decide +kernel
theorem dX5_become_18 : decode cX5_become 18 = .ok (.aload_n 0, 1) := by decide +kernel
theorem dX5_become_19 : decode cX5_become 19 = .ok (.getfield 15, 3) := by decide +kernel
theorem dX5_become_22 : decode cX5_become 22 = .ok (.iload_n 3, 1) := by decide +kernel
theorem dX5_become_23 : decode cX5_become 23 = .ok (.iconst 0, 1) := by decide +kernel
theorem dX5_become_24 : decode cX5_become 24 = .ok (.iastore, 1) := by decide +kernel
theorem dX5_become_25 : decode cX5_become 25 = .ok (.iinc 3 1, 3) := by decide +kernel
theorem dX5_become_28 : decode cX5_become 28 = .ok (.goto (-16), 3) := by decide +kernel
theorem dX5_become_31 : decode cX5_become 31 = .ok (.return_, 1) := by decide +kernel
theorem dX5_spans_0 : decode cX5_spans 0 = .ok (.iload_n 2, 1) := by decide +kernel
theorem dX5_spans_1 : decode cX5_spans 1 = .ok (.ifCond .lt 29, 3) := by decide +kernel
theorem dX5_spans_4 : decode cX5_spans 4 = .ok (.iload_n 2, 1) := by decide +kernel
theorem dX5_spans_5 : decode cX5_spans 5 = .ok (.aload_n 0, 1) := by decide +kernel
theorem dX5_spans_6 : decode cX5_spans 6 = .ok (.getfield 19, 3) := by decide +kernel
theorem dX5_spans_9 : decode cX5_spans 9 = .ok (.if_icmp .gt 21, 3) := by decide +kernel
theorem dX5_spans_12 : decode cX5_spans 12 = .ok (.iload_n 1, 1) := by decide +kernel
theorem dX5_spans_13 : decode cX5_spans 13 = .ok (.iconst 0, 1) := by decide +kernel
theorem dX5_spans_14 : decode cX5_spans 14 = .ok (.aload_n 0, 1) := by decide +kernel
theorem dX5_spans_15 : decode cX5_spans 15 = .ok (.getfield 19, 3) := by decide +kernel
theorem dX5_spans_18 : decode cX5_spans 18 = .ok (.iload_n 2, 1) := by decide +kernel
theorem dX5_spans_19 : decode cX5_spans 19 = .ok (.isub, 1) := by decide +kernel
theorem dX5_spans_20 : decode cX5_spans 20 = .ok (.invokestatic 22, 3) := by decide +kernel
theorem dX5_spans_23 : decode cX5_spans 23 = .ok (.ifCond .eq 7, 3) := by decide +kernel
theorem dX5_spans_26 : decode cX5_spans 26 = .ok (.iconst 1, 1) := by decide +kernel
theorem dX5_spans_27 : decode cX5_spans 27 = .ok (.goto 4, 3) := by decide +kernel
theorem dX5_spans_30 : decode cX5_spans 30 = .ok (.iconst 0, 1) := by decide +kernel
theorem dX5_spans_31 : decode cX5_spans 31 = .ok (.ireturn, 1) := by decide +kernel
theorem dX5_appendText_0 : decode cX5_appendText 0 = .ok (.iconst 0, 1) := by decide +kernel
theorem dX5_appendText_1 : decode cX5_appendText 1 = .ok (.istore_n 2, 1) := by decide +kernel
theorem dX5_appendText_2 : decode cX5_appendText 2 = .ok (.iload_n 2, 1) := by decide +kernel
theorem dX5_appendText_3 : decode cX5_appendText 3 = .ok (.aload_n 1, 1) := by decide +kernel
theorem dX5_appendText_4 : decode cX5_appendText 4 = .ok (.invokevirtual 26, 3) := by decide +kernel
theorem dX5_appendText_7 : decode cX5_appendText 7 = .ok (.if_icmp .ge 18, 3) := by decide +kernel
theorem dX5_appendText_10 : decode cX5_appendText 10 = .ok (.aload_n 0, 1) := by decide +kernel
theorem dX5_appendText_11 : decode cX5_appendText 11 = .ok (.aload_n 1, 1) := by decide +kernel
theorem dX5_appendText_12 : decode cX5_appendText 12 = .ok (.iload_n 2, 1) := by decide +kernel
theorem dX5_appendText_13 : decode cX5_appendText 13 = .ok (.invokevirtual 31, 3) := by decide +kernel
theorem dX5_appendText_16 : decode cX5_appendText 16 = .ok (.invokevirtual 35, 3) := by decide +kernel
theorem dX5_appendText_19 : decode cX5_appendText 19 = .ok (.iinc 2 1, 3) := by decide +kernel
theorem dX5_appendText_22 : decode cX5_appendText 22 = .ok (.goto (-20), 3) := by decide +kernel
theorem dX5_appendText_25 : decode cX5_appendText 25 = .ok (.return_, 1) := by decide +kernel
theorem dX5_appendValue_0 : decode cX5_appendValue 0 = .ok (.aload_n 0, 1) := by decide +kernel
theorem dX5_appendValue_1 : decode cX5_appendValue 1 = .ok (.bipush 32, 2) := by decide +kernel
theorem dX5_appendValue_3 : decode cX5_appendValue 3 = .ok (.invokevirtual 35, 3) := by decide +kernel
theorem dX5_appendValue_6 : decode cX5_appendValue 6 = .ok (.iload_n 1, 1) := by decide +kernel
theorem dX5_appendValue_7 : decode cX5_appendValue 7 = .ok (.ifCond .ge 9, 3) := by decide +kernel
theorem dX5_appendValue_10 : decode cX5_appendValue 10 = .ok (.aload_n 0, 1) := by decide +kernel
theorem dX5_appendValue_11 : decode cX5_appendValue 11 = .ok (.bipush 45, 2) := by decide +kernel
theorem dX5_appendValue_13 : decode cX5_appendValue 13 = .ok (.invokevirtual 35, 3) := by decide +kernel
theorem dX5_appendValue_16 : decode cX5_appendValue 16 = .ok (.aload_n 0, 1) := by decide +kernel
theorem dX5_appendValue_17 : decode cX5_appendValue 17 = .ok (.bipush 48, 2) := by decide +kernel
theorem dX5_appendValue_19 : decode cX5_appendValue 19 = .ok (.iload_n 1, 1) := by decide +kernel
theorem dX5_appendValue_20 : decode cX5_appendValue 20 = .ok (.invokestatic 39, 3) := by decide +kernel
theorem dX5_appendValue_23 : decode cX5_appendValue 23 = .ok (.iadd, 1) := by decide +kernel
theorem dX5_appendValue_24 : decode cX5_appendValue 24 = .ok (.i2c, 1) := by decide +kernel
theorem dX5_appendValue_25 : decode cX5_appendValue 25 = .ok (.invokevirtual 35, 3) := by decide +kernel
theorem dX5_appendValue_28 : decode cX5_appendValue 28 = .ok (.return_, 1) := by decide +kernel
theorem dX5_appendSign_0 : decode cX5_appendSign 0 = .ok (.aload_n 0, 1) := by decide +kernel
theorem dX5_appendSign_1 : decode cX5_appendSign 1 = .ok (.getfield 19, 3) := by decide +kernel
theorem dX5_appendSign_4 : decode cX5_appendSign 4 = .ok (.bipush 40, 2) := by decide +kernel
theorem dX5_appendSign_6 : decode cX5_appendSign 6 = .ok (.if_icmp .ge 24, 3) := by decide +kernel
theorem dX5_appendSign_9 : decode cX5_appendSign 9 = .ok (.aload_n 0, 1) := by decide +kernel
theorem dX5_appendSign_10 : decode cX5_appendSign 10 = .ok (.getfield 15, 3) := by decide +kernel
theorem dX5_appendSign_13 : decode cX5_appendSign 13 = .ok (.aload_n 0, 1) := by decide +kernel
theorem dX5_appendSign_14 : decode cX5_appendSign 14 = .ok (.getfield 19, 3) := by decide +kernel
theorem dX5_appendSign_17 : decode cX5_appendSign 17 = .ok (.iload_n 1, 1) := by decide +kernel
theorem dX5_appendSign_18 : decode cX5_appendSign 18 = .ok (.i2b, 1) := by decide +kernel
theorem dX5_appendSign_19 : decode cX5_appendSign 19 = .ok (.iastore, 1) := by decide +kernel
theorem dX5_appendSign_20 : decode cX5_appendSign 20 = .ok (.aload_n 0, 1) := by decide +kernel
theorem dX5_appendSign_21 : decode cX5_appendSign 21 = .ok (.dup, 1) := by decide +kernel
theorem dX5_appendSign_22 : decode cX5_appendSign 22 = .ok (.getfield 19, 3) := by decide +kernel
theorem dX5_appendSign_25 : decode cX5_appendSign 25 = .ok (.iconst 1, 1) := by decide +kernel
theorem dX5_appendSign_26 : decode cX5_appendSign 26 = .ok (.iadd, 1) := by decide +kernel
theorem dX5_appendSign_27 : decode cX5_appendSign 27 = .ok (.putfield 19, 3) := by decide +kernel
theorem dX5_appendSign_30 : decode cX5_appendSign 30 = .ok (.return_, 1) := by decide +kernel
