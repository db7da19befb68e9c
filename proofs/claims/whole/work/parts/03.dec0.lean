theorem dX0_init_0 : decode cX0_init 0 = .ok (.aload_n 0, 1) := by decide +kernel
theorem dX0_init_1 : decode cX0_init 1 = .ok (.invokespecial 3, 3) := by decide +kernel
theorem dX0_init_4 : decode cX0_init 4 = .ok (.aload_n 0, 1) := by decide +kernel
theorem dX0_init_5 : decode cX0_init 5 = .ok (.bipush 16, 2) := by decide +kernel
theorem dX0_init_7 : decode cX0_init 7 = .ok (.newarray .int, 2) := by decide +kernel
theorem dX0_init_9 : decode cX0_init 9 = .ok (.putfield 9, 3) := by decide +kernel
theorem dX0_init_12 : decode cX0_init 12 = .ok (.aload_n 0, 1) := by decide +kernel
theorem dX0_init_13 : decode cX0_init 13 = .ok (.iconst 0, 1) := by decide +kernel
theorem dX0_init_14 : decode cX0_init 14 = .ok (.putfield 15, 3) := by decide +kernel
theorem dX0_init_17 : decode cX0_init 17 = .ok (.return_, 1) := by decide +kernel
theorem dX0_forget_0 : decode cX0_forget 0 = .ok (.aload_n 0, 1) := by decide +kernel
theorem dX0_forget_1 : decode cX0_forget 1 = .ok (.iconst 0, 1) := by decide +kernel
theorem dX0_forget_2 : decode cX0_forget 2 = .ok (.putfield 15, 3) := by decide +kernel
theorem dX0_forget_5 : decode cX0_forget 5 = .ok (.return_, 1) := by decide +kernel
theorem dX0_traceAt_0 : decode cX0_traceAt 0 = .ok (.iload_n 1, 1) := by decide +kernel
theorem dX0_traceAt_1 : decode cX0_traceAt 1 = .ok (.ifCond .lt 20, 3) := by decide +kernel
theorem dX0_traceAt_4 : decode cX0_traceAt 4 = .ok (.iload_n 1, 1) := by decide +kernel
theorem dX0_traceAt_5 : decode cX0_traceAt 5 = .ok (.aload_n 0, 1) := by decide +kernel
theorem dX0_traceAt_6 : decode cX0_traceAt 6 = .ok (.getfield 15, 3) := by decide +kernel
theorem dX0_traceAt_9 : decode cX0_traceAt 9 = .ok (.if_icmp .ge 12, 3) := by decide +kernel
theorem dX0_traceAt_12 : decode cX0_traceAt 12 = .ok (.iload_n 1, 1) := by decide +kernel
theorem dX0_traceAt_13 : decode cX0_traceAt 13 = .ok (.aload_n 0, 1) := by decide +kernel
theorem dX0_traceAt_14 : decode cX0_traceAt 14 = .ok (.getfield 9, 3) := by decide +kernel
theorem dX0_traceAt_17 : decode cX0_traceAt 17 = .ok (.arraylength, 1) := by decide +kernel
theorem dX0_traceAt_18 : decode cX0_traceAt 18 = .ok (.if_icmp .lt 8, 3) := by decide +kernel
theorem dX0_traceAt_21 : decode cX0_traceAt 21 = .ok (.ldc 19, 2) := by decide +kernel
theorem dX0_traceAt_23 : decode cX0_traceAt 23 = .ok (.goto 9, 3) := by decide +kernel
theorem dX0_traceAt_26 : decode cX0_traceAt 26 = .ok (.aload_n 0, 1) := by decide +kernel
theorem dX0_traceAt_27 : decode cX0_traceAt 27 = .ok (.getfield 9, 3) := by decide +kernel
theorem dX0_traceAt_30 : decode cX0_traceAt 30 = .ok (.iload_n 1, 1) := by decide +kernel
theorem dX0_traceAt_31 : decode cX0_traceAt 31 = .ok (.iaload, 1) := by decide +kernel
theorem dX0_traceAt_32 : decode cX0_traceAt 32 = .ok (.ireturn, 1) := by decide +kernel
theorem dX0_begin_0 : decode cX0_begin 0 = .ok (.aload_n 0, 1) := by decide +kernel
theorem dX0_begin_1 : decode cX0_begin 1 = .ok (.getfield 15, 3) := by decide +kernel
theorem dX0_begin_4 : decode cX0_begin 4 = .ok (.ifCond .lt 15, 3) := by decide +kernel
theorem dX0_begin_7 : decode cX0_begin 7 = .ok (.aload_n 0, 1) := by decide +kernel
theorem dX0_begin_8 : decode cX0_begin 8 = .ok (.getfield 15, 3) := by decide +kernel
theorem dX0_begin_11 : decode cX0_begin 11 = .ok (.aload_n 0, 1) := by decide +kernel
theorem dX0_begin_12 : decode cX0_begin 12 = .ok (.getfield 9, 3) := by decide +kernel
theorem dX0_begin_15 : decode cX0_begin 15 = .ok (.arraylength, 1) := by decide +kernel
theorem dX0_begin_16 : decode cX0_begin 16 = .ok (.if_icmp .lt 4, 3) := by decide +kernel
theorem dX0_begin_19 : decode cX0_begin 19 = .ok (.return_, 1) := by decide +kernel
theorem dX0_begin_20 : decode cX0_begin 20 = .ok (.aload_n 0, 1) := by decide +kernel
theorem dX0_begin_21 : decode cX0_begin 21 = .ok (.getfield 9, 3) := by decide +kernel
theorem dX0_begin_24 : decode cX0_begin 24 = .ok (.aload_n 0, 1) := by decide +kernel
theorem dX0_begin_25 : decode cX0_begin 25 = .ok (.getfield 15, 3) := by decide +kernel
theorem dX0_begin_28 : decode cX0_begin 28 = .ok (.iload_n 1, 1) := by decide +kernel
theorem dX0_begin_29 : decode cX0_begin 29 = .ok (.iastore, 1) := by decide +kernel
theorem dX0_begin_30 : decode cX0_begin 30 = .ok (.aload_n 0, 1) := by decide +kernel
theorem dX0_begin_31 : decode cX0_begin 31 = .ok (.dup, 1) := by decide +kernel
theorem dX0_begin_32 : decode cX0_begin 32 = .ok (.getfield 15, 3) := by decide +kernel
theorem dX0_begin_35 : decode cX0_begin 35 = .ok (.iconst 1, 1) := by decide +kernel
theorem dX0_begin_36 : decode cX0_begin 36 = .ok (.iadd, 1) := by decide +kernel
theorem dX0_begin_37 : decode cX0_begin 37 = .ok (.putfield 15, 3) := by decide +kernel
theorem dX0_begin_40 : decode cX0_begin 40 = .ok (.return_, 1) := by decide +kernel
theorem dX0_sizeOf_0 : decode cX0_sizeOf 0 = .ok (.iload_n 3, 1) := by decide +kernel
theorem dX0_sizeOf_1 : decode cX0_sizeOf 1 = .ok (.iconst 4, 1) := by decide +kernel
theorem dX0_sizeOf_2 : decode cX0_sizeOf 2 = .ok (.if_icmp .ne 8, 3) := by decide +kernel
theorem dX0_sizeOf_5 : decode cX0_sizeOf 5 = .ok (.aload_n 0, 1) := by decide +kernel
theorem dX0_sizeOf_6 : decode cX0_sizeOf 6 = .ok (.invokevirtual 20, 3) := by decide +kernel
theorem dX0_sizeOf_9 : decode cX0_sizeOf 9 = .ok (.ireturn, 1) := by decide +kernel
theorem dX0_sizeOf_10 : decode cX0_sizeOf 10 = .ok (.iload_n 3, 1) := by decide +kernel
theorem dX0_sizeOf_11 : decode cX0_sizeOf 11 = .ok (.iconst 3, 1) := by decide +kernel
theorem dX0_sizeOf_12 : decode cX0_sizeOf 12 = .ok (.if_icmp .ne 9, 3) := by decide +kernel
theorem dX0_sizeOf_15 : decode cX0_sizeOf 15 = .ok (.aload_n 0, 1) := by decide +kernel
theorem dX0_sizeOf_16 : decode cX0_sizeOf 16 = .ok (.lload_n 1, 1) := by decide +kernel
theorem dX0_sizeOf_17 : decode cX0_sizeOf 17 = .ok (.invokevirtual 24, 3) := by decide +kernel
theorem dX0_sizeOf_20 : decode cX0_sizeOf 20 = .ok (.ireturn, 1) := by decide +kernel
theorem dX0_sizeOf_21 : decode cX0_sizeOf 21 = .ok (.aload_n 0, 1) := by decide +kernel
theorem dX0_sizeOf_22 : decode cX0_sizeOf 22 = .ok (.lload_n 1, 1) := by decide +kernel
theorem dX0_sizeOf_23 : decode cX0_sizeOf 23 = .ok (.invokevirtual 28, 3) := by decide +kernel
theorem dX0_sizeOf_26 : decode cX0_sizeOf 26 = .ok (.ireturn, 1) := by decide +kernel
theorem dX0_lentSize_0 : decode cX0_lentSize 0 = .ok (.aload_n 0, 1) := by decide +kernel
theorem dX0_lentSize_1 : decode cX0_lentSize 1 = .ok (.bipush 10, 2) := by decide +kernel
theorem dX0_lentSize_3 : decode cX0_lentSize 3 = .ok (.invokevirtual 31, 3) := by decide +kernel
theorem dX0_lentSize_6 : decode cX0_lentSize 6 = .ok (.lload_n 1, 1) := by decide +kernel
theorem dX0_lentSize_7 : decode cX0_lentSize 7 = .ok (.ldc2_w 35, 3) := by decide +kernel
theorem dX0_lentSize_10 : decode cX0_lentSize 10 = .ok (.lrem, 1) := by decide +kernel
theorem dX0_lentSize_11 : decode cX0_lentSize 11 = .ok (.l2i, 1) := by decide +kernel
theorem dX0_lentSize_12 : decode cX0_lentSize 12 = .ok (.ireturn, 1) := by decide +kernel
theorem dX0_unitSize_0 : decode cX0_unitSize 0 = .ok (.aload_n 0, 1) := by decide +kernel
theorem dX0_unitSize_1 : decode cX0_unitSize 1 = .ok (.bipush 11, 2) := by decide +kernel
theorem dX0_unitSize_3 : decode cX0_unitSize 3 = .ok (.invokevirtual 31, 3) := by decide +kernel
theorem dX0_unitSize_6 : decode cX0_unitSize 6 = .ok (.iconst 1, 1) := by decide +kernel
theorem dX0_unitSize_7 : decode cX0_unitSize 7 = .ok (.ireturn, 1) := by decide +kernel
theorem dX0_primeSize_0 : decode cX0_primeSize 0 = .ok (.aload_n 0, 1) := by decide +kernel
theorem dX0_primeSize_1 : decode cX0_primeSize 1 = .ok (.bipush 12, 2) := by decide +kernel
theorem dX0_primeSize_3 : decode cX0_primeSize 3 = .ok (.invokevirtual 31, 3) := by decide +kernel
theorem dX0_primeSize_6 : decode cX0_primeSize 6 = .ok (.aload_n 0, 1) := by decide +kernel
theorem dX0_primeSize_7 : decode cX0_primeSize 7 = .ok (.lload_n 1, 1) := by decide +kernel
theorem dX0_primeSize_8 : decode cX0_primeSize 8 = .ok (.invokevirtual 28, 3) := by decide +kernel
theorem dX0_primeSize_11 : decode cX0_primeSize 11 = .ok (.iconst 2, 1) := by decide +kernel
theorem dX0_primeSize_12 : decode cX0_primeSize 12 = .ok (.iadd, 1) := by decide +kernel
theorem dX0_primeSize_13 : decode cX0_primeSize 13 = .ok (.ireturn, 1) := by decide +kernel
theorem dX0_shareOf_0 : decode cX0_shareOf 0 = .ok (.iload_n 3, 1) := by decide +kernel
theorem dX0_shareOf_1 : decode cX0_shareOf 1 = .ok (.iconst 4, 1) := by decide +kernel
theorem dX0_shareOf_2 : decode cX0_shareOf 2 = .ok (.if_icmp .ne 10, 3) := by decide +kernel
theorem dX0_shareOf_5 : decode cX0_shareOf 5 = .ok (.aload_n 0, 1) := by decide +kernel
theorem dX0_shareOf_6 : decode cX0_shareOf 6 = .ok (.lload_n 1, 1) := by decide +kernel
theorem dX0_shareOf_7 : decode cX0_shareOf 7 = .ok (.iload_n 3, 1) := by decide +kernel
theorem dX0_shareOf_8 : decode cX0_shareOf 8 = .ok (.invokevirtual 37, 3) := by decide +kernel
theorem dX0_shareOf_11 : decode cX0_shareOf 11 = .ok (.ireturn, 1) := by decide +kernel
theorem dX0_shareOf_12 : decode cX0_shareOf 12 = .ok (.iload_n 3, 1) := by decide +kernel
theorem dX0_shareOf_13 : decode cX0_shareOf 13 = .ok (.iconst 2, 1) := by decide +kernel
theorem dX0_shareOf_14 : decode cX0_shareOf 14 = .ok (.if_icmp .eq 8, 3) := by decide +kernel
theorem dX0_shareOf_17 : decode cX0_shareOf 17 = .ok (.iload_n 3, 1) := by decide +kernel
theorem dX0_shareOf_18 : decode cX0_shareOf 18 = .ok (.iconst 3, 1) := by decide +kernel
theorem dX0_shareOf_19 : decode cX0_shareOf 19 = .ok (.if_icmp .ne 10, 3) := by decide +kernel
theorem dX0_shareOf_22 : decode cX0_shareOf 22 = .ok (.aload_n 0, 1) := by decide +kernel
theorem dX0_shareOf_23 : decode cX0_shareOf 23 = .ok (.lload_n 1, 1) := by decide +kernel
theorem dX0_shareOf_24 : decode cX0_shareOf 24 = .ok (.iload_n 3, 1) := by decide +kernel
theorem dX0_shareOf_25 : decode cX0_shareOf 25 = .ok (.invokevirtual 41, 3) := by decide +kernel
theorem dX0_shareOf_28 : decode cX0_shareOf 28 = .ok (.ireturn, 1) := by decide +kernel
theorem dX0_shareOf_29 : decode cX0_shareOf 29 = .ok (.iload_n 3, 1) := by decide +kernel
theorem dX0_shareOf_30 : decode cX0_shareOf 30 = .ok (.iconst 1, 1) := by decide +kernel
theorem dX0_shareOf_31 : decode cX0_shareOf 31 = .ok (.if_icmp .ne 8, 3) := by decide +kernel
theorem dX0_shareOf_34 : decode cX0_shareOf 34 = .ok (.aload_n 0, 1) := by decide +kernel
theorem dX0_shareOf_35 : decode cX0_shareOf 35 = .ok (.invokevirtual 44, 3) := by decide +kernel
theorem dX0_shareOf_38 : decode cX0_shareOf 38 = .ok (.ireturn, 1) := by decide +kernel
theorem dX0_shareOf_39 : decode cX0_shareOf 39 = .ok (.aload_n 0, 1) := by decide +kernel
theorem dX0_shareOf_40 : decode cX0_shareOf 40 = .ok (.invokevirtual 47, 3) := by decide +kernel
theorem dX0_shareOf_43 : decode cX0_shareOf 43 = .ok (.ireturn, 1) := by decide +kernel
theorem dX0_fourShare_0 : decode cX0_fourShare 0 = .ok (.aload_n 0, 1) := by decide +kernel
theorem dX0_fourShare_1 : decode cX0_fourShare 1 = .ok (.bipush 20, 2) := by decide +kernel
theorem dX0_fourShare_3 : decode cX0_fourShare 3 = .ok (.invokevirtual 31, 3) := by decide +kernel
theorem dX0_fourShare_6 : decode cX0_fourShare 6 = .ok (.bipush 24, 2) := by decide +kernel
theorem dX0_fourShare_8 : decode cX0_fourShare 8 = .ok (.ireturn, 1) := by decide +kernel
theorem dX0_halfShare_0 : decode cX0_halfShare 0 = .ok (.aload_n 0, 1) := by decide +kernel
theorem dX0_halfShare_1 : decode cX0_halfShare 1 = .ok (.bipush 21, 2) := by decide +kernel
theorem dX0_halfShare_3 : decode cX0_halfShare 3 = .ok (.invokevirtual 31, 3) := by decide +kernel
theorem dX0_halfShare_6 : decode cX0_halfShare 6 = .ok (.aload_n 0, 1) := by decide +kernel
theorem dX0_halfShare_7 : decode cX0_halfShare 7 = .ok (.invokevirtual 47, 3) := by decide +kernel
theorem dX0_halfShare_10 : decode cX0_halfShare 10 = .ok (.iconst 2, 1) := by decide +kernel
theorem dX0_halfShare_11 : decode cX0_halfShare 11 = .ok (.idiv, 1) := by decide +kernel
theorem dX0_halfShare_12 : decode cX0_halfShare 12 = .ok (.ireturn, 1) := by decide +kernel
theorem dX0_plainShare_0 : decode cX0_plainShare 0 = .ok (.aload_n 0, 1) := by decide +kernel
theorem dX0_plainShare_1 : decode cX0_plainShare 1 = .ok (.bipush 22, 2) := by decide +kernel
theorem dX0_plainShare_3 : decode cX0_plainShare 3 = .ok (.invokevirtual 31, 3) := by decide +kernel
theorem dX0_plainShare_6 : decode cX0_plainShare 6 = .ok (.aload_n 0, 1) := by decide +kernel
theorem dX0_plainShare_7 : decode cX0_plainShare 7 = .ok (.invokevirtual 47, 3) := by decide +kernel
theorem dX0_plainShare_10 : decode cX0_plainShare 10 = .ok (.istore 4, 2) := by decide +kernel
theorem dX0_plainShare_12 : decode cX0_plainShare 12 = .ok (.iload 4, 2) := by decide +kernel
theorem dX0_plainShare_14 : decode cX0_plainShare 14 = .ok (.aload_n 0, 1) := by decide +kernel
theorem dX0_plainShare_15 : decode cX0_plainShare 15 = .ok (.lload_n 1, 1) := by decide +kernel
theorem dX0_plainShare_16 : decode cX0_plainShare 16 = .ok (.iload_n 3, 1) := by decide +kernel
theorem dX0_plainShare_17 : decode cX0_plainShare 17 = .ok (.invokevirtual 50, 3) := by decide +kernel
theorem dX0_plainShare_20 : decode cX0_plainShare 20 = .ok (.iadd, 1) := by decide +kernel
theorem dX0_plainShare_21 : decode cX0_plainShare 21 = .ok (.ireturn, 1) := by decide +kernel
theorem dX0_unitShare_0 : decode cX0_unitShare 0 = .ok (.aload_n 0, 1) := by decide +kernel
theorem dX0_unitShare_1 : decode cX0_unitShare 1 = .ok (.bipush 23, 2) := by decide +kernel
theorem dX0_unitShare_3 : decode cX0_unitShare 3 = .ok (.invokevirtual 31, 3) := by decide +kernel
theorem dX0_unitShare_6 : decode cX0_unitShare 6 = .ok (.aload_n 0, 1) := by decide +kernel
theorem dX0_unitShare_7 : decode cX0_unitShare 7 = .ok (.lload_n 1, 1) := by decide +kernel
theorem dX0_unitShare_8 : decode cX0_unitShare 8 = .ok (.iload_n 3, 1) := by decide +kernel
theorem dX0_unitShare_9 : decode cX0_unitShare 9 = .ok (.invokevirtual 41, 3) := by decide +kernel
theorem dX0_unitShare_12 : decode cX0_unitShare 12 = .ok (.iconst 5, 1) := by decide +kernel
theorem dX0_unitShare_13 : decode cX0_unitShare 13 = .ok (.idiv, 1) := by decide +kernel
theorem dX0_unitShare_14 : decode cX0_unitShare 14 = .ok (.ireturn, 1) := by decide +kernel
theorem dX0_markOf_0 : decode cX0_markOf 0 = .ok (.iload_n 2, 1) := by decide +kernel
theorem dX0_markOf_1 : decode cX0_markOf 1 = .ok (.iconst 3, 1) := by decide +kernel
theorem dX0_markOf_2 : decode cX0_markOf 2 = .ok (.if_icmp .ne 9, 3) := by decide +kernel
theorem dX0_markOf_5 : decode cX0_markOf 5 = .ok (.aload_n 0, 1) := by decide +kernel
theorem dX0_markOf_6 : decode cX0_markOf 6 = .ok (.aload_n 1, 1) := by decide +kernel
theorem dX0_markOf_7 : decode cX0_markOf 7 = .ok (.invokevirtual 53, 3) := by decide +kernel
theorem dX0_markOf_10 : decode cX0_markOf 10 = .ok (.ireturn, 1) := by decide +kernel
theorem dX0_markOf_11 : decode cX0_markOf 11 = .ok (.iload_n 2, 1) := by decide +kernel
theorem dX0_markOf_12 : decode cX0_markOf 12 = .ok (.iconst 2, 1) := by decide +kernel
theorem dX0_markOf_13 : decode cX0_markOf 13 = .ok (.if_icmp .eq 8, 3) := by decide +kernel
theorem dX0_markOf_16 : decode cX0_markOf 16 = .ok (.iload_n 2, 1) := by decide +kernel
theorem dX0_markOf_17 : decode cX0_markOf 17 = .ok (.iconst 4, 1) := by decide +kernel
theorem dX0_markOf_18 : decode cX0_markOf 18 = .ok (.if_icmp .ne 9, 3) := by decide +kernel
theorem dX0_markOf_21 : decode cX0_markOf 21 = .ok (.aload_n 0, 1) := by decide +kernel
theorem dX0_markOf_22 : decode cX0_markOf 22 = .ok (.aload_n 1, 1) := by decide +kernel
theorem dX0_markOf_23 : decode cX0_markOf 23 = .ok (.invokevirtual 57, 3) := by decide +kernel
theorem dX0_markOf_26 : decode cX0_markOf 26 = .ok (.ireturn, 1) := by decide +kernel
theorem dX0_markOf_27 : decode cX0_markOf 27 = .ok (.aload_n 0, 1) := by decide +kernel
theorem dX0_markOf_28 : decode cX0_markOf 28 = .ok (.aload_n 1, 1) := by decide +kernel
theorem dX0_markOf_29 : decode cX0_markOf 29 = .ok (.invokevirtual 60, 3) := by decide +kernel
theorem dX0_markOf_32 : decode cX0_markOf 32 = .ok (.ireturn, 1) := by decide +kernel
theorem dX0_lentMark_0 : decode cX0_lentMark 0 = .ok (.aload_n 0, 1) := by decide +kernel
theorem dX0_lentMark_1 : decode cX0_lentMark 1 = .ok (.bipush 30, 2) := by decide +kernel
theorem dX0_lentMark_3 : decode cX0_lentMark 3 = .ok (.invokevirtual 31, 3) := by decide +kernel
theorem dX0_lentMark_6 : decode cX0_lentMark 6 = .ok (.aload_n 1, 1) := by decide +kernel
theorem dX0_lentMark_7 : decode cX0_lentMark 7 = .ok (.getfield 63, 3) := by decide +kernel
theorem dX0_lentMark_10 : decode cX0_lentMark 10 = .ok (.aload_n 1, 1) := by decide +kernel
theorem dX0_lentMark_11 : decode cX0_lentMark 11 = .ok (.getfield 69, 3) := by decide +kernel
theorem dX0_lentMark_14 : decode cX0_lentMark 14 = .ok (.ladd, 1) := by decide +kernel
theorem dX0_lentMark_15 : decode cX0_lentMark 15 = .ok (.aload_n 1, 1) := by decide +kernel
theorem dX0_lentMark_16 : decode cX0_lentMark 16 = .ok (.getfield 72, 3) := by decide +kernel
theorem dX0_lentMark_19 : decode cX0_lentMark 19 = .ok (.ladd, 1) := by decide +kernel
theorem dX0_lentMark_20 : decode cX0_lentMark 20 = .ok (.aload_n 1, 1) := by decide +kernel
theorem dX0_lentMark_21 : decode cX0_lentMark 21 = .ok (.getfield 75, 3) := by decide +kernel
theorem dX0_lentMark_24 : decode cX0_lentMark 24 = .ok (.ladd, 1) := by decide +kernel
theorem dX0_lentMark_25 : decode cX0_lentMark 25 = .ok (.ldc2_w 78, 3) := by decide +kernel
theorem dX0_lentMark_28 : decode cX0_lentMark 28 = .ok (.invokestatic 80, 3) := by decide +kernel
theorem dX0_lentMark_31 : decode cX0_lentMark 31 = .ok (.l2i, 1) := by decide +kernel
theorem dX0_lentMark_32 : decode cX0_lentMark 32 = .ok (.ireturn, 1) := by decide +kernel
theorem dX0_plainMark_0 : decode cX0_plainMark 0 = .ok (.aload_n 0, 1) := by decide +kernel
theorem dX0_plainMark_1 : decode cX0_plainMark 1 = .ok (.bipush 31, 2) := by decide +kernel
theorem dX0_plainMark_3 : decode cX0_plainMark 3 = .ok (.invokevirtual 31, 3) := by decide +kernel
theorem dX0_plainMark_6 : decode cX0_plainMark 6 = .ok (.iconst 2, 1) := by decide +kernel
theorem dX0_plainMark_7 : decode cX0_plainMark 7 = .ok (.aload_n 0, 1) := by decide +kernel
theorem dX0_plainMark_8 : decode cX0_plainMark 8 = .ok (.aload_n 1, 1) := by decide +kernel
theorem dX0_plainMark_9 : decode cX0_plainMark 9 = .ok (.invokevirtual 60, 3) := by decide +kernel
theorem dX0_plainMark_12 : decode cX0_plainMark 12 = .ok (.imul, 1) := by decide +kernel
theorem dX0_plainMark_13 : decode cX0_plainMark 13 = .ok (.ireturn, 1) := by decide +kernel
theorem dX0_primeMark_0 : decode cX0_primeMark 0 = .ok (.aload_n 0, 1) := by decide +kernel
theorem dX0_primeMark_1 : decode cX0_primeMark 1 = .ok (.bipush 32, 2) := by decide +kernel
theorem dX0_primeMark_3 : decode cX0_primeMark 3 = .ok (.invokevirtual 31, 3) := by decide +kernel
theorem dX0_primeMark_6 : decode cX0_primeMark 6 = .ok (.aload_n 0, 1) := by decide +kernel
theorem dX0_primeMark_7 : decode cX0_primeMark 7 = .ok (.aload_n 1, 1) := by decide +kernel
theorem dX0_primeMark_8 : decode cX0_primeMark 8 = .ok (.invokevirtual 57, 3) := by decide +kernel
theorem dX0_primeMark_11 : decode cX0_primeMark 11 = .ok (.iconst 1, 1) := by decide +kernel
theorem dX0_primeMark_12 : decode cX0_primeMark 12 = .ok (.iadd, 1) := by decide +kernel
theorem dX0_primeMark_13 : decode cX0_primeMark 13 = .ok (.ireturn, 1) := by decide +kernel
theorem dX1_init_0 : decode cX1_init 0 = .ok (.aload_n 0, 1) := by decide +kernel
theorem dX1_init_1 : decode cX1_init 1 = .ok (.invokespecial 3, 3) := by decide +kernel
theorem dX1_init_4 : decode cX1_init 4 = .ok (.aload_n 0, 1) := by decide +kernel
theorem dX1_init_5 : decode cX1_init 5 = .ok (.new 9, 3) := by decide +kernel
theorem dX1_init_8 : decode cX1_init 8 = .ok (.dup, 1) := by decide +kernel
theorem dX1_init_9 : decode cX1_init 9 = .ok (.invokespecial 11, 3) := by decide +kernel
theorem dX1_init_12 : decode cX1_init 12 = .ok (.putfield 12, 3) := by decide +kernel
theorem dX1_init_15 : decode cX1_init 15 = .ok (.aload_n 0, 1) := by decide +kernel
theorem dX1_init_16 : decode cX1_init 16 = .ok (.new 9, 3) := by decide +kernel
theorem dX1_init_19 : decode cX1_init 19 = .ok (.dup, 1) := by decide +kernel
theorem dX1_init_20 : decode cX1_init 20 = .ok (.invokespecial 11, 3) := by decide +kernel
theorem dX1_init_23 : decode cX1_init 23 = .ok (.putfield 18, 3) := by decide +kernel
theorem dX1_init_26 : decode cX1_init 26 = .ok (.aload_n 0, 1) := by decide +kernel
theorem dX1_init_27 : decode cX1_init 27 = .ok (.new 9, 3) := by decide +kernel
theorem dX1_init_30 : decode cX1_init 30 = .ok (.dup, 1) := by decide +kernel
theorem dX1_init_31 : decode cX1_init 31 = .ok (.invokespecial 11, 3) := by decide +kernel
theorem dX1_init_34 : decode cX1_init 34 = .ok (.putfield 21, 3) := by decide +kernel
theorem dX1_init_37 : decode cX1_init 37 = .ok (.return_, 1) := by decide +kernel
theorem dX1_seek_0 : decode cX1_seek 0 = .ok (.aload_n 0, 1) := by decide +kernel
theorem dX1_seek_1 : decode cX1_seek 1 = .ok (.getfield 12, 3) := by decide +kernel
theorem dX1_seek_4 : decode cX1_seek 4 = .ok (.aload_n 1, 1) := by decide +kernel
theorem dX1_seek_5 : decode cX1_seek 5 = .ok (.invokevirtual 24, 3) := by decide +kernel
theorem dX1_seek_8 : decode cX1_seek 8 = .ok (.iconst 0, 1) := by decide +kernel
theorem dX1_seek_9 : decode cX1_seek 9 = .ok (.istore_n 3, 1) := by decide +kernel
theorem dX1_seek_10 : decode cX1_seek 10 = .ok (.iload_n 3, 1) := by decide +kernel
theorem dX1_seek_11 : decode cX1_seek 11 = .ok (.bipush 24, 2) := by decide +kernel
theorem dX1_seek_13 : decode cX1_seek 13 = .ok (.if_icmp .ge 73, 3) := by decide +kernel
theorem dX1_seek_16 : decode cX1_seek 16 = .ok (.aload_n 0, 1) := by decide +kernel
theorem dX1_seek_17 : decode cX1_seek 17 = .ok (.getfield 18, 3) := by decide +kernel
theorem dX1_seek_20 : decode cX1_seek 20 = .ok (.iload_n 3, 1) := by decide +kernel
theorem dX1_seek_21 : decode cX1_seek 21 = .ok (.invokevirtual 28, 3) := by decide +kernel
theorem dX1_seek_24 : decode cX1_seek 24 = .ok (.iload_n 2, 1) := by decide +kernel
theorem dX1_seek_25 : decode cX1_seek 25 = .ok (.ifCond .ne 18, 3) := by decide +kernel
theorem dX1_seek_28 : decode cX1_seek 28 = .ok (.aload_n 0, 1) := by decide +kernel
theorem dX1_seek_29 : decode cX1_seek 29 = .ok (.getfield 21, 3) := by decide +kernel
theorem dX1_seek_32 : decode cX1_seek 32 = .ok (.aload_n 0, 1) := by decide +kernel
theorem dX1_seek_33 : decode cX1_seek 33 = .ok (.getfield 18, 3) := by decide +kernel
theorem dX1_seek_36 : decode cX1_seek 36 = .ok (.aload_n 1, 1) := by decide +kernel
theorem dX1_seek_37 : decode cX1_seek 37 = .ok (.invokevirtual 32, 3) := by decide +kernel
theorem dX1_seek_40 : decode cX1_seek 40 = .ok (.goto 15, 3) := by decide +kernel
theorem dX1_seek_43 : decode cX1_seek 43 = .ok (.aload_n 0, 1) := by decide +kernel
theorem dX1_seek_44 : decode cX1_seek 44 = .ok (.getfield 21, 3) := by decide +kernel
theorem dX1_seek_47 : decode cX1_seek 47 = .ok (.aload_n 1, 1) := by decide +kernel
theorem dX1_seek_48 : decode cX1_seek 48 = .ok (.aload_n 0, 1) := by decide +kernel
theorem dX1_seek_49 : decode cX1_seek 49 = .ok (.getfield 18, 3) := by decide +kernel
theorem dX1_seek_52 : decode cX1_seek 52 = .ok (.invokevirtual 32, 3) := by decide +kernel
theorem dX1_seek_55 : decode cX1_seek 55 = .ok (.aload_n 0, 1) := by decide +kernel
theorem dX1_seek_56 : decode cX1_seek 56 = .ok (.getfield 12, 3) := by decide +kernel
theorem dX1_seek_59 : decode cX1_seek 59 = .ok (.aload_n 0, 1) := by decide +kernel
theorem dX1_seek_60 : decode cX1_seek 60 = .ok (.getfield 21, 3) := by decide +kernel
theorem dX1_seek_63 : decode cX1_seek 63 = .ok (.invokevirtual 36, 3) := by decide +kernel
theorem dX1_seek_66 : decode cX1_seek 66 = .ok (.ifCond .eq 14, 3) := by decide +kernel
theorem dX1_seek_69 : decode cX1_seek 69 = .ok (.aload_n 0, 1) := by decide +kernel
theorem dX1_seek_70 : decode cX1_seek 70 = .ok (.getfield 12, 3) := by decide +kernel
theorem dX1_seek_73 : decode cX1_seek 73 = .ok (.aload_n 0, 1) := by decide +kernel
theorem dX1_seek_74 : decode cX1_seek 74 = .ok (.getfield 21, 3) := by decide +kernel
theorem dX1_seek_77 : decode cX1_seek 77 = .ok (.invokevirtual 24, 3) := by decide +kernel
theorem dX1_seek_80 : decode cX1_seek 80 = .ok (.iinc 3 1, 3) := by decide +kernel
theorem dX1_seek_83 : decode cX1_seek 83 = .ok (.goto (-73), 3) := by decide +kernel
theorem dX1_seek_86 : decode cX1_seek 86 = .ok (.return_, 1) := by decide +kernel
theorem dX2_init_0 : decode cX2_init 0 = .ok (.aload_n 0, 1) := by decide +kernel
theorem dX2_init_1 : decode cX2_init 1 = .ok (.invokespecial 3, 3) := by decide +kernel
theorem dX2_init_4 : decode cX2_init 4 = .ok (.aload_n 0, 1) := by decide +kernel
theorem dX2_init_5 : decode cX2_init 5 = .ok (.new 9, 3) := by decide +kernel
theorem dX2_init_8 : decode cX2_init 8 = .ok (.dup, 1) := by decide +kernel
theorem dX2_init_9 : decode cX2_init 9 = .ok (.invokespecial 11, 3) := by decide +kernel
theorem dX2_init_12 : decode cX2_init 12 = .ok (.putfield 12, 3) := by decide +kernel
theorem dX2_init_15 : decode cX2_init 15 = .ok (.return_, 1) := by decide +kernel
theorem dX2_fill_0 : decode cX2_fill 0 = .ok (.aload_n 0, 1) := by decide +kernel
theorem dX2_fill_1 : decode cX2_fill 1 = .ok (.getfield 12, 3) := by decide +kernel
theorem dX2_fill_4 : decode cX2_fill 4 = .ok (.aload_n 1, 1) := by decide +kernel
theorem dX2_fill_5 : decode cX2_fill 5 = .ok (.invokevirtual 18, 3) := by decide +kernel
theorem dX2_fill_8 : decode cX2_fill 8 = .ok (.aload_n 0, 1) := by decide +kernel
theorem dX2_fill_9 : decode cX2_fill 9 = .ok (.invokevirtual 22, 3) := by decide +kernel
theorem dX2_fill_12 : decode cX2_fill 12 = .ok (.aload_n 0, 1) := by decide +kernel
theorem dX2_fill_13 : decode cX2_fill 13 = .ok (.invokevirtual 25, 3) := by decide +kernel
theorem dX2_fill_16 : decode cX2_fill 16 = .ok (.aload_n 0, 1) := by decide +kernel
theorem dX2_fill_17 : decode cX2_fill 17 = .ok (.invokevirtual 28, 3) := by decide +kernel
theorem dX2_fill_20 : decode cX2_fill 20 = .ok (.return_, 1) := by decide +kernel
theorem dX2_numberAt_0 : decode cX2_numberAt 0 = .ok (.iload_n 1, 1) := by decide +kernel
theorem dX2_numberAt_1 : decode cX2_numberAt 1 = .ok (.ifCond .ne 10, 3) := by decide +kernel
theorem dX2_numberAt_4 : decode cX2_numberAt 4 = .ok (.aload_n 0, 1) := by decide +kernel
theorem dX2_numberAt_5 : decode cX2_numberAt 5 = .ok (.getfield 31, 3) := by decide +kernel
theorem dX2_numberAt_8 : decode cX2_numberAt 8 = .ok (.goto 55, 3) := by decide +kernel
theorem dX2_numberAt_11 : decode cX2_numberAt 11 = .ok (.iload_n 1, 1) := by decide +kernel
theorem dX2_numberAt_12 : decode cX2_numberAt 12 = .ok (.iconst 1, 1) := by decide +kernel
theorem dX2_numberAt_13 : decode cX2_numberAt 13 = .ok (.if_icmp .ne 10, 3) := by decide +kernel
theorem dX2_numberAt_16 : decode cX2_numberAt 16 = .ok (.aload_n 0, 1) := by decide +kernel
theorem dX2_numberAt_17 : decode cX2_numberAt 17 = .ok (.getfield 35, 3) := by decide +kernel
theorem dX2_numberAt_20 : decode cX2_numberAt 20 = .ok (.goto 43, 3) := by decide +kernel
theorem dX2_numberAt_23 : decode cX2_numberAt 23 = .ok (.iload_n 1, 1) := by decide +kernel
theorem dX2_numberAt_24 : decode cX2_numberAt 24 = .ok (.iconst 2, 1) := by decide +kernel
theorem dX2_numberAt_25 : decode cX2_numberAt 25 = .ok (.if_icmp .ne 10, 3) := by decide +kernel
theorem dX2_numberAt_28 : decode cX2_numberAt 28 = .ok (.aload_n 0, 1) := by decide +kernel
theorem dX2_numberAt_29 : decode cX2_numberAt 29 = .ok (.getfield 38, 3) := by decide +kernel
theorem dX2_numberAt_32 : decode cX2_numberAt 32 = .ok (.goto 31, 3) := by decide +kernel
theorem dX2_numberAt_35 : decode cX2_numberAt 35 = .ok (.iload_n 1, 1) := by decide +kernel
theorem dX2_numberAt_36 : decode cX2_numberAt 36 = .ok (.iconst 3, 1) := by decide +kernel
theorem dX2_numberAt_37 : decode cX2_numberAt 37 = .ok (.if_icmp .ne 10, 3) := by decide +kernel
theorem dX2_numberAt_40 : decode cX2_numberAt 40 = .ok (.aload_n 0, 1) := by decide +kernel
theorem dX2_numberAt_41 : decode cX2_numberAt 41 = .ok (.getfield 41, 3) := by decide +kernel
theorem dX2_numberAt_44 : decode cX2_numberAt 44 = .ok (.goto 19, 3) := by decide +kernel
theorem dX2_numberAt_47 : decode cX2_numberAt 47 = .ok (.iload_n 1, 1) := by decide +kernel
theorem dX2_numberAt_48 : decode cX2_numberAt 48 = .ok (.iconst 4, 1) := by decide +kernel
theorem dX2_numberAt_49 : decode cX2_numberAt 49 = .ok (.if_icmp .ne 10, 3) := by decide +kernel
theorem dX2_numberAt_52 : decode cX2_numberAt 52 = .ok (.aload_n 0, 1) := by decide +kernel
theorem dX2_numberAt_53 : decode cX2_numberAt 53 = .ok (.getfield 44, 3) := by decide +kernel
theorem dX2_numberAt_56 : decode cX2_numberAt 56 = .ok (.goto 7, 3) := by decide +kernel
theorem dX2_numberAt_59 : decode cX2_numberAt 59 = .ok (.aload_n 0, 1) := by decide +kernel
theorem dX2_numberAt_60 : decode cX2_numberAt 60 = .ok (.getfield 47, 3) := by decide +kernel
theorem dX2_numberAt_63 : decode cX2_numberAt 63 = .ok (.ireturn, 1) := by decide +kernel
theorem dX2_seekFirst_0 : decode cX2_seekFirst 0 = .ok (.iconst 1, 1) := by decide +kernel
theorem dX2_seekFirst_1 : decode cX2_seekFirst 1 = .ok (.istore_n 1, 1) := by decide +kernel
theorem dX2_seekFirst_2 : decode cX2_seekFirst 2 = .ok (.iload_n 1, 1) := by decide +kernel
theorem dX2_seekFirst_3 : decode cX2_seekFirst 3 = .ok (.sipush 300, 3) := by decide +kernel
theorem dX2_seekFirst_6 : decode cX2_seekFirst 6 = .ok (.if_icmp .gt 32, 3) := by decide +kernel
theorem dX2_seekFirst_9 : decode cX2_seekFirst 9 = .ok (.aload_n 0, 1) := by decide +kernel
theorem dX2_seekFirst_10 : decode cX2_seekFirst 10 = .ok (.getfield 12, 3) := by decide +kernel
theorem dX2_seekFirst_13 : decode cX2_seekFirst 13 = .ok (.iload_n 1, 1) := by decide +kernel
theorem dX2_seekFirst_14 : decode cX2_seekFirst 14 = .ok (.i2l, 1) := by decide +kernel
theorem dX2_seekFirst_15 : decode cX2_seekFirst 15 = .ok (.lconst 0, 1) := by decide +kernel
theorem dX2_seekFirst_16 : decode cX2_seekFirst 16 = .ok (.lconst 0, 1) := by decide +kernel
theorem dX2_seekFirst_17 : decode cX2_seekFirst 17 = .ok (.invokevirtual 50, 3) := by decide +kernel
theorem dX2_seekFirst_20 : decode cX2_seekFirst 20 = .ok (.ifCond .ne 6, 3) := by decide +kernel
theorem dX2_seekFirst_23 : decode cX2_seekFirst 23 = .ok (.goto 9, 3) := by decide +kernel
theorem dX2_seekFirst_26 : decode cX2_seekFirst 26 = .ok (.aload_n 0, 1) := by decide +kernel
theorem dX2_seekFirst_27 : decode cX2_seekFirst 27 = .ok (.iload_n 1, 1) := by decide +kernel
theorem dX2_seekFirst_28 : decode cX2_seekFirst 28 = .ok (.putfield 31, 3) := by decide +kernel
theorem dX2_seekFirst_31 : decode cX2_seekFirst 31 = .ok (.return_, 1) := by decide +kernel
theorem dX2_seekFirst_32 : decode cX2_seekFirst 32 = .ok (.iinc 1 1, 3) := by decide +kernel
theorem dX2_seekFirst_35 : decode cX2_seekFirst 35 = .ok (.goto (-33), 3) := by decide +kernel
theorem dX2_seekFirst_38 : decode cX2_seekFirst 38 = .ok (.return_, 1) := by decide +kernel
theorem dX2_seekSecond_0 : decode cX2_seekSecond 0 = .ok (.iconst 1, 1) := by decide +kernel
theorem dX2_seekSecond_1 : decode cX2_seekSecond 1 = .ok (.istore_n 1, 1) := by decide +kernel
theorem dX2_seekSecond_2 : decode cX2_seekSecond 2 = .ok (.iload_n 1, 1) := by decide +kernel
theorem dX2_seekSecond_3 : decode cX2_seekSecond 3 = .ok (.sipush 300, 3) := by decide +kernel
theorem dX2_seekSecond_6 : decode cX2_seekSecond 6 = .ok (.if_icmp .gt 54, 3) := by decide +kernel
theorem dX2_seekSecond_9 : decode cX2_seekSecond 9 = .ok (.iconst 0, 1) := by decide +kernel
theorem dX2_seekSecond_10 : decode cX2_seekSecond 10 = .ok (.istore_n 2, 1) := by decide +kernel
theorem dX2_seekSecond_11 : decode cX2_seekSecond 11 = .ok (.iload_n 2, 1) := by decide +kernel
theorem dX2_seekSecond_12 : decode cX2_seekSecond 12 = .ok (.aload_n 0, 1) := by decide +kernel
theorem dX2_seekSecond_13 : decode cX2_seekSecond 13 = .ok (.getfield 31, 3) := by decide +kernel
theorem dX2_seekSecond_16 : decode cX2_seekSecond 16 = .ok (.if_icmp .ge 38, 3) := by decide +kernel
theorem dX2_seekSecond_19 : decode cX2_seekSecond 19 = .ok (.aload_n 0, 1) := by decide +kernel
theorem dX2_seekSecond_20 : decode cX2_seekSecond 20 = .ok (.getfield 12, 3) := by decide +kernel
theorem dX2_seekSecond_23 : decode cX2_seekSecond 23 = .ok (.iload_n 2, 1) := by decide +kernel
theorem dX2_seekSecond_24 : decode cX2_seekSecond 24 = .ok (.i2l, 1) := by decide +kernel
theorem dX2_seekSecond_25 : decode cX2_seekSecond 25 = .ok (.iload_n 1, 1) := by decide +kernel
theorem dX2_seekSecond_26 : decode cX2_seekSecond 26 = .ok (.i2l, 1) := by decide +kernel
theorem dX2_seekSecond_27 : decode cX2_seekSecond 27 = .ok (.lconst 0, 1) := by decide +kernel
theorem dX2_seekSecond_28 : decode cX2_seekSecond 28 = .ok (.invokevirtual 50, 3) := by decide +kernel
theorem dX2_seekSecond_31 : decode cX2_seekSecond 31 = .ok (.ifCond .ne 6, 3) := by decide +kernel
theorem dX2_seekSecond_34 : decode cX2_seekSecond 34 = .ok (.goto 14, 3) := by decide +kernel
theorem dX2_seekSecond_37 : decode cX2_seekSecond 37 = .ok (.aload_n 0, 1) := by decide +kernel
theorem dX2_seekSecond_38 : decode cX2_seekSecond 38 = .ok (.iload_n 2, 1) := by decide +kernel
theorem dX2_seekSecond_39 : decode cX2_seekSecond 39 = .ok (.putfield 35, 3) := by decide +kernel
theorem dX2_seekSecond_42 : decode cX2_seekSecond 42 = .ok (.aload_n 0, 1) := by decide +kernel
theorem dX2_seekSecond_43 : decode cX2_seekSecond 43 = .ok (.iload_n 1, 1) := by decide +kernel
theorem dX2_seekSecond_44 : decode cX2_seekSecond 44 = .ok (.putfield 38, 3) := by decide +kernel
theorem dX2_seekSecond_47 : decode cX2_seekSecond 47 = .ok (.return_, 1) := by decide +kernel
theorem dX2_seekSecond_48 : decode cX2_seekSecond 48 = .ok (.iinc 2 1, 3) := by decide +kernel
theorem dX2_seekSecond_51 : decode cX2_seekSecond 51 = .ok (.goto (-40), 3) := by decide +kernel
theorem dX2_seekSecond_54 : decode cX2_seekSecond 54 = .ok (.iinc 1 1, 3) := by decide +kernel
theorem dX2_seekSecond_57 : decode cX2_seekSecond 57 = .ok (.goto (-55), 3) := by decide +kernel
theorem dX2_seekSecond_60 : decode cX2_seekSecond 60 = .ok (.return_, 1) := by decide +kernel
theorem dX2_seekThird_0 : decode cX2_seekThird 0 = .ok (.iconst 1, 1) := by decide +kernel
theorem dX2_seekThird_1 : decode cX2_seekThird 1 = .ok (.istore_n 1, 1) := by decide +kernel
theorem dX2_seekThird_2 : decode cX2_seekThird 2 = .ok (.iload_n 1, 1) := by decide +kernel
theorem dX2_seekThird_3 : decode cX2_seekThird 3 = .ok (.sipush 300, 3) := by decide +kernel
theorem dX2_seekThird_6 : decode cX2_seekThird 6 = .ok (.if_icmp .gt 76, 3) := by decide +kernel
theorem dX2_seekThird_9 : decode cX2_seekThird 9 = .ok (.iconst 0, 1) := by decide +kernel
theorem dX2_seekThird_10 : decode cX2_seekThird 10 = .ok (.istore_n 2, 1) := by decide +kernel
theorem dX2_seekThird_11 : decode cX2_seekThird 11 = .ok (.iload_n 2, 1) := by decide +kernel
theorem dX2_seekThird_12 : decode cX2_seekThird 12 = .ok (.aload_n 0, 1) := by decide +kernel
theorem dX2_seekThird_13 : decode cX2_seekThird 13 = .ok (.getfield 38, 3) := by decide +kernel
theorem dX2_seekThird_16 : decode cX2_seekThird 16 = .ok (.if_icmp .ge 60, 3) := by decide +kernel
theorem dX2_seekThird_19 : decode cX2_seekThird 19 = .ok (.iconst 0, 1) := by decide +kernel
theorem dX2_seekThird_20 : decode cX2_seekThird 20 = .ok (.istore_n 3, 1) := by decide +kernel
theorem dX2_seekThird_21 : decode cX2_seekThird 21 = .ok (.iload_n 3, 1) := by decide +kernel
theorem dX2_seekThird_22 : decode cX2_seekThird 22 = .ok (.aload_n 0, 1) := by decide +kernel
theorem dX2_seekThird_23 : decode cX2_seekThird 23 = .ok (.getfield 31, 3) := by decide +kernel
theorem dX2_seekThird_26 : decode cX2_seekThird 26 = .ok (.if_icmp .ge 44, 3) := by decide +kernel
theorem dX2_seekThird_29 : decode cX2_seekThird 29 = .ok (.aload_n 0, 1) := by decide +kernel
theorem dX2_seekThird_30 : decode cX2_seekThird 30 = .ok (.getfield 12, 3) := by decide +kernel
theorem dX2_seekThird_33 : decode cX2_seekThird 33 = .ok (.iload_n 3, 1) := by decide +kernel
theorem dX2_seekThird_34 : decode cX2_seekThird 34 = .ok (.i2l, 1) := by decide +kernel
theorem dX2_seekThird_35 : decode cX2_seekThird 35 = .ok (.iload_n 2, 1) := by decide +kernel
theorem dX2_seekThird_36 : decode cX2_seekThird 36 = .ok (.i2l, 1) := by decide +kernel
theorem dX2_seekThird_37 : decode cX2_seekThird 37 = .ok (.iload_n 1, 1) := by decide +kernel
theorem dX2_seekThird_38 : decode cX2_seekThird 38 = .ok (.i2l, 1) := by decide +kernel
theorem dX2_seekThird_39 : decode cX2_seekThird 39 = .ok (.invokevirtual 50, 3) := by decide +kernel
theorem dX2_seekThird_42 : decode cX2_seekThird 42 = .ok (.ifCond .ne 6, 3) := by decide +kernel
theorem dX2_seekThird_45 : decode cX2_seekThird 45 = .ok (.goto 19, 3) := by decide +kernel
theorem dX2_seekThird_48 : decode cX2_seekThird 48 = .ok (.aload_n 0, 1) := by decide +kernel
theorem dX2_seekThird_49 : decode cX2_seekThird 49 = .ok (.iload_n 3, 1) := by decide +kernel
theorem dX2_seekThird_50 : decode cX2_seekThird 50 = .ok (.putfield 41, 3) := by decide +kernel
theorem dX2_seekThird_53 : decode cX2_seekThird 53 = .ok (.aload_n 0, 1) := by decide +kernel
theorem dX2_seekThird_54 : decode cX2_seekThird 54 = .ok (.iload_n 2, 1) := by decide +kernel
theorem dX2_seekThird_55 : decode cX2_seekThird 55 = .ok (.putfield 44, 3) := by decide +kernel
theorem dX2_seekThird_58 : decode cX2_seekThird 58 = .ok (.aload_n 0, 1) := by decide +kernel
theorem dX2_seekThird_59 : decode cX2_seekThird 59 = .ok (.iload_n 1, 1) := by decide +kernel
theorem dX2_seekThird_60 : decode cX2_seekThird 60 = .ok (.putfield 47, 3) := by decide +kernel
theorem dX2_seekThird_63 : decode cX2_seekThird 63 = .ok (.return_, 1) := by decide +kernel
theorem dX2_seekThird_64 : decode cX2_seekThird 64 = .ok (.iinc 3 1, 3) := by decide +kernel
theorem dX2_seekThird_67 : decode cX2_seekThird 67 = .ok (.goto (-46), 3) := by decide +kernel
theorem dX2_seekThird_70 : decode cX2_seekThird 70 = .ok (.iinc 2 1, 3) := by decide +kernel
theorem dX2_seekThird_73 : decode cX2_seekThird 73 = .ok (.goto (-62), 3) := by decide +kernel
theorem dX2_seekThird_76 : decode cX2_seekThird 76 = .ok (.iinc 1 1, 3) := by decide +kernel
theorem dX2_seekThird_79 : decode cX2_seekThird 79 = .ok (.goto (-77), 3) := by decide +kernel
theorem dX2_seekThird_82 : decode cX2_seekThird 82 = .ok (.return_, 1) := by decide +kernel
theorem dX3_init_0 : decode cX3_init 0 = .ok (.aload_n 0, 1) := by decide +kernel
theorem dX3_init_1 : decode cX3_init 1 = .ok (.invokespecial 3, 3) := by decide +kernel
theorem dX3_init_4 : decode cX3_init 4 = .ok (.aload_n 0, 1) := by decide +kernel
theorem dX3_init_5 : decode cX3_init 5 = .ok (.new 9, 3) := by decide +kernel
theorem dX3_init_8 : decode cX3_init 8 = .ok (.dup, 1) := by decide +kernel
theorem dX3_init_9 : decode cX3_init 9 = .ok (.invokespecial 11, 3) := by decide +kernel
theorem dX3_init_12 : decode cX3_init 12 = .ok (.putfield 12, 3) := by decide +kernel
theorem dX3_init_15 : decode cX3_init 15 = .ok (.aload_n 0, 1) := by decide +kernel
theorem dX3_init_16 : decode cX3_init 16 = .ok (.new 9, 3) := by decide +kernel
theorem dX3_init_19 : decode cX3_init 19 = .ok (.dup, 1) := by decide +kernel
theorem dX3_init_20 : decode cX3_init 20 = .ok (.invokespecial 11, 3) := by decide +kernel
theorem dX3_init_23 : decode cX3_init 23 = .ok (.putfield 18, 3) := by decide +kernel
theorem dX3_init_26 : decode cX3_init 26 = .ok (.aload_n 0, 1) := by decide +kernel
theorem dX3_init_27 : decode cX3_init 27 = .ok (.new 9, 3) := by decide +kernel
theorem dX3_init_30 : decode cX3_init 30 = .ok (.dup, 1) := by decide +kernel
theorem dX3_init_31 : decode cX3_init 31 = .ok (.invokespecial 11, 3) := by decide +kernel
theorem dX3_init_34 : decode cX3_init 34 = .ok (.putfield 21, 3) := by decide +kernel
theorem dX3_init_37 : decode cX3_init 37 = .ok (.aload_n 0, 1) := by decide +kernel
theorem dX3_init_38 : decode cX3_init 38 = .ok (.new 9, 3) := by decide +kernel
theorem dX3_init_41 : decode cX3_init 41 = .ok (.dup, 1) := by decide +kernel
theorem dX3_init_42 : decode cX3_init 42 = .ok (.invokespecial 11, 3) := by decide +kernel
theorem dX3_init_45 : decode cX3_init 45 = .ok (.putfield 24, 3) := by decide +kernel
theorem dX3_init_48 : decode cX3_init 48 = .ok (.return_, 1) := by decide +kernel
theorem dX3_divide_0 : decode cX3_divide 0 = .ok (.aload_n 0, 1) := by decide +kernel
theorem dX3_divide_1 : decode cX3_divide 1 = .ok (.getfield 21, 3) := by decide +kernel
theorem dX3_divide_4 : decode cX3_divide 4 = .ok (.aload_n 2, 1) := by decide +kernel
theorem dX3_divide_5 : decode cX3_divide 5 = .ok (.invokevirtual 27, 3) := by decide +kernel
theorem dX3_divide_8 : decode cX3_divide 8 = .ok (.iload_n 3, 1) := by decide +kernel
theorem dX3_divide_9 : decode cX3_divide 9 = .ok (.ifCond .ne 18, 3) := by decide +kernel
theorem dX3_divide_12 : decode cX3_divide 12 = .ok (.aload_n 0, 1) := by decide +kernel
theorem dX3_divide_13 : decode cX3_divide 13 = .ok (.getfield 21, 3) := by decide +kernel
theorem dX3_divide_16 : decode cX3_divide 16 = .ok (.aload_n 0, 1) := by decide +kernel
theorem dX3_divide_17 : decode cX3_divide 17 = .ok (.getfield 21, 3) := by decide +kernel
theorem dX3_divide_20 : decode cX3_divide 20 = .ok (.aload_n 1, 1) := by decide +kernel
theorem dX3_divide_21 : decode cX3_divide 21 = .ok (.invokevirtual 31, 3) := by decide +kernel
theorem dX3_divide_24 : decode cX3_divide 24 = .ok (.goto 15, 3) := by decide +kernel
theorem dX3_divide_27 : decode cX3_divide 27 = .ok (.aload_n 0, 1) := by decide +kernel
theorem dX3_divide_28 : decode cX3_divide 28 = .ok (.getfield 21, 3) := by decide +kernel
theorem dX3_divide_31 : decode cX3_divide 31 = .ok (.aload_n 1, 1) := by decide +kernel
theorem dX3_divide_32 : decode cX3_divide 32 = .ok (.aload_n 0, 1) := by decide +kernel
theorem dX3_divide_33 : decode cX3_divide 33 = .ok (.getfield 21, 3) := by decide +kernel
theorem dX3_divide_36 : decode cX3_divide 36 = .ok (.invokevirtual 31, 3) := by decide +kernel
theorem dX3_divide_39 : decode cX3_divide 39 = .ok (.aload_n 2, 1) := by decide +kernel
theorem dX3_divide_40 : decode cX3_divide 40 = .ok (.invokevirtual 35, 3) := by decide +kernel
theorem dX3_divide_43 : decode cX3_divide 43 = .ok (.lstore 4, 2) := by decide +kernel
theorem dX3_divide_45 : decode cX3_divide 45 = .ok (.aload_n 0, 1) := by decide +kernel
theorem dX3_divide_46 : decode cX3_divide 46 = .ok (.getfield 21, 3) := by decide +kernel
theorem dX3_divide_49 : decode cX3_divide 49 = .ok (.invokevirtual 39, 3) := by decide +kernel
theorem dX3_divide_52 : decode cX3_divide 52 = .ok (.lload 4, 2) := by decide +kernel
theorem dX3_divide_54 : decode cX3_divide 54 = .ok (.invokestatic 42, 3) := by decide +kernel
theorem dX3_divide_57 : decode cX3_divide 57 = .ok (.lstore 6, 2) := by decide +kernel
theorem dX3_divide_59 : decode cX3_divide 59 = .ok (.lload 6, 2) := by decide +kernel
theorem dX3_divide_61 : decode cX3_divide 61 = .ok (.lconst 0, 1) := by decide +kernel
theorem dX3_divide_62 : decode cX3_divide 62 = .ok (.lcmp, 1) := by decide +kernel
theorem dX3_divide_63 : decode cX3_divide 63 = .ok (.ifCond .ne 4, 3) := by decide +kernel
theorem dX3_divide_66 : decode cX3_divide 66 = .ok (.return_, 1) := by decide +kernel
theorem dX3_divide_67 : decode cX3_divide 67 = .ok (.aload_n 0, 1) := by decide +kernel
theorem dX3_divide_68 : decode cX3_divide 68 = .ok (.getfield 21, 3) := by decide +kernel
theorem dX3_divide_71 : decode cX3_divide 71 = .ok (.lload 6, 2) := by decide +kernel
theorem dX3_divide_73 : decode cX3_divide 73 = .ok (.invokevirtual 46, 3) := by decide +kernel
theorem dX3_divide_76 : decode cX3_divide 76 = .ok (.aload_n 0, 1) := by decide +kernel
theorem dX3_divide_77 : decode cX3_divide 77 = .ok (.lload 4, 2) := by decide +kernel
theorem dX3_divide_79 : decode cX3_divide 79 = .ok (.lload 6, 2) := by decide +kernel
theorem dX3_divide_81 : decode cX3_divide 81 = .ok (.ldiv, 1) := by decide +kernel
theorem dX3_divide_82 : decode cX3_divide 82 = .ok (.invokevirtual 50, 3) := by decide +kernel
theorem dX3_divide_85 : decode cX3_divide 85 = .ok (.iload_n 3, 1) := by decide +kernel
theorem dX3_divide_86 : decode cX3_divide 86 = .ok (.ifCond .ne 18, 3) := by decide +kernel
theorem dX3_divide_89 : decode cX3_divide 89 = .ok (.aload_n 0, 1) := by decide +kernel
theorem dX3_divide_90 : decode cX3_divide 90 = .ok (.getfield 18, 3) := by decide +kernel
theorem dX3_divide_93 : decode cX3_divide 93 = .ok (.aload_n 2, 1) := by decide +kernel
theorem dX3_divide_94 : decode cX3_divide 94 = .ok (.aload_n 0, 1) := by decide +kernel
theorem dX3_divide_95 : decode cX3_divide 95 = .ok (.getfield 12, 3) := by decide +kernel
theorem dX3_divide_98 : decode cX3_divide 98 = .ok (.invokevirtual 31, 3) := by decide +kernel
theorem dX3_divide_101 : decode cX3_divide 101 = .ok (.goto 15, 3) := by decide +kernel
theorem dX3_divide_104 : decode cX3_divide 104 = .ok (.aload_n 0, 1) := by decide +kernel
theorem dX3_divide_105 : decode cX3_divide 105 = .ok (.getfield 18, 3) := by decide +kernel
theorem dX3_divide_108 : decode cX3_divide 108 = .ok (.aload_n 0, 1) := by decide +kernel
theorem dX3_divide_109 : decode cX3_divide 109 = .ok (.getfield 12, 3) := by decide +kernel
theorem dX3_divide_112 : decode cX3_divide 112 = .ok (.aload_n 2, 1) := by decide +kernel
theorem dX3_divide_113 : decode cX3_divide 113 = .ok (.invokevirtual 31, 3) := by decide +kernel
theorem dX3_divide_116 : decode cX3_divide 116 = .ok (.aload_n 0, 1) := by decide +kernel
theorem dX3_divide_117 : decode cX3_divide 117 = .ok (.getfield 18, 3) := by decide +kernel
theorem dX3_divide_120 : decode cX3_divide 120 = .ok (.aload_n 1, 1) := by decide +kernel
theorem dX3_divide_121 : decode cX3_divide 121 = .ok (.aload_n 0, 1) := by decide +kernel
theorem dX3_divide_122 : decode cX3_divide 122 = .ok (.getfield 18, 3) := by decide +kernel
theorem dX3_divide_125 : decode cX3_divide 125 = .ok (.invokevirtual 53, 3) := by decide +kernel
theorem dX3_divide_128 : decode cX3_divide 128 = .ok (.return_, 1) := by decide +kernel
theorem dX3_roundFraction_0 : decode cX3_roundFraction 0 = .ok (.lload_n 1, 1) := by decide +kernel
theorem dX3_roundFraction_1 : decode cX3_roundFraction 1 = .ok (.lconst 0, 1) := by decide +kernel
theorem dX3_roundFraction_2 : decode cX3_roundFraction 2 = .ok (.lcmp, 1) := by decide +kernel
theorem dX3_roundFraction_3 : decode cX3_roundFraction 3 = .ok (.ifCond .ne 4, 3) := by decide +kernel
theorem dX3_roundFraction_6 : decode cX3_roundFraction 6 = .ok (.return_, 1) := by decide +kernel
theorem dX3_roundFraction_7 : decode cX3_roundFraction 7 = .ok (.aload_n 0, 1) := by decide +kernel
theorem dX3_roundFraction_8 : decode cX3_roundFraction 8 = .ok (.getfield 21, 3) := by decide +kernel
theorem dX3_roundFraction_11 : decode cX3_roundFraction 11 = .ok (.astore_n 3, 1) := by decide +kernel
theorem dX3_roundFraction_12 : decode cX3_roundFraction 12 = .ok (.aload_n 0, 1) := by decide +kernel
theorem dX3_roundFraction_13 : decode cX3_roundFraction 13 = .ok (.getfield 12, 3) := by decide +kernel
theorem dX3_roundFraction_16 : decode cX3_roundFraction 16 = .ok (.aload_n 3, 1) := by decide +kernel
theorem dX3_roundFraction_17 : decode cX3_roundFraction 17 = .ok (.getfield 56, 3) := by decide +kernel
theorem dX3_roundFraction_20 : decode cX3_roundFraction 20 = .ok (.lload_n 1, 1) := by decide +kernel
theorem dX3_roundFraction_21 : decode cX3_roundFraction 21 = .ok (.invokestatic 60, 3) := by decide +kernel
theorem dX3_roundFraction_24 : decode cX3_roundFraction 24 = .ok (.aload_n 3, 1) := by decide +kernel
theorem dX3_roundFraction_25 : decode cX3_roundFraction 25 = .ok (.getfield 63, 3) := by decide +kernel
theorem dX3_roundFraction_28 : decode cX3_roundFraction 28 = .ok (.lload_n 1, 1) := by decide +kernel
theorem dX3_roundFraction_29 : decode cX3_roundFraction 29 = .ok (.invokestatic 60, 3) := by decide +kernel
theorem dX3_roundFraction_32 : decode cX3_roundFraction 32 = .ok (.aload_n 3, 1) := by decide +kernel
theorem dX3_roundFraction_33 : decode cX3_roundFraction 33 = .ok (.getfield 66, 3) := by decide +kernel
theorem dX3_roundFraction_36 : decode cX3_roundFraction 36 = .ok (.lload_n 1, 1) := by decide +kernel
theorem dX3_roundFraction_37 : decode cX3_roundFraction 37 = .ok (.invokestatic 60, 3) := by decide +kernel
theorem dX3_roundFraction_40 : decode cX3_roundFraction 40 = .ok (.aload_n 3, 1) := by decide +kernel
theorem dX3_roundFraction_41 : decode cX3_roundFraction 41 = .ok (.getfield 69, 3) := by decide +kernel
theorem dX3_roundFraction_44 : decode cX3_roundFraction 44 = .ok (.lload_n 1, 1) := by decide +kernel
theorem dX3_roundFraction_45 : decode cX3_roundFraction 45 = .ok (.invokestatic 60, 3) := by decide +kernel
theorem dX3_roundFraction_48 : decode cX3_roundFraction 48 = .ok (.invokevirtual 72, 3) := by decide +kernel
theorem dX3_roundFraction_51 : decode cX3_roundFraction 51 = .ok (.aload_n 0, 1) := by decide +kernel
theorem dX3_roundFraction_52 : decode cX3_roundFraction 52 = .ok (.getfield 24, 3) := by decide +kernel
theorem dX3_roundFraction_55 : decode cX3_roundFraction 55 = .ok (.aload_n 3, 1) := by decide +kernel
theorem dX3_roundFraction_56 : decode cX3_roundFraction 56 = .ok (.getfield 56, 3) := by decide +kernel
theorem dX3_roundFraction_59 : decode cX3_roundFraction 59 = .ok (.lload_n 1, 1) := by decide +kernel
theorem dX3_roundFraction_60 : decode cX3_roundFraction 60 = .ok (.invokestatic 76, 3) := by decide +kernel
theorem dX3_roundFraction_63 : decode cX3_roundFraction 63 = .ok (.aload_n 3, 1) := by decide +kernel
theorem dX3_roundFraction_64 : decode cX3_roundFraction 64 = .ok (.getfield 63, 3) := by decide +kernel
theorem dX3_roundFraction_67 : decode cX3_roundFraction 67 = .ok (.lload_n 1, 1) := by decide +kernel
theorem dX3_roundFraction_68 : decode cX3_roundFraction 68 = .ok (.invokestatic 76, 3) := by decide +kernel
theorem dX3_roundFraction_71 : decode cX3_roundFraction 71 = .ok (.aload_n 3, 1) := by decide +kernel
theorem dX3_roundFraction_72 : decode cX3_roundFraction 72 = .ok (.getfield 66, 3) := by decide +kernel
theorem dX3_roundFraction_75 : decode cX3_roundFraction 75 = .ok (.lload_n 1, 1) := by decide +kernel
theorem dX3_roundFraction_76 : decode cX3_roundFraction 76 = .ok (.invokestatic 76, 3) := by decide +kernel
theorem dX3_roundFraction_79 : decode cX3_roundFraction 79 = .ok (.aload_n 3, 1) := by decide +kernel
theorem dX3_roundFraction_80 : decode cX3_roundFraction 80 = .ok (.getfield 69, 3) := by decide +kernel
theorem dX3_roundFraction_83 : decode cX3_roundFraction 83 = .ok (.lload_n 1, 1) := by decide +kernel
theorem dX3_roundFraction_84 : decode cX3_roundFraction 84 = .ok (.invokestatic 76, 3) := by decide +kernel
theorem dX3_roundFraction_87 : decode cX3_roundFraction 87 = .ok (.invokevirtual 72, 3) := by decide +kernel
theorem dX3_roundFraction_90 : decode cX3_roundFraction 90 = .ok (.aload_n 0, 1) := by decide +kernel
theorem dX3_roundFraction_91 : decode cX3_roundFraction 91 = .ok (.aload_n 0, 1) := by decide +kernel
theorem dX3_roundFraction_92 : decode cX3_roundFraction 92 = .ok (.getfield 12, 3) := by decide +kernel
theorem dX3_roundFraction_95 : decode cX3_roundFraction 95 = .ok (.lload_n 1, 1) := by decide +kernel
theorem dX3_roundFraction_96 : decode cX3_roundFraction 96 = .ok (.invokevirtual 79, 3) := by decide +kernel
theorem dX3_roundFraction_99 : decode cX3_roundFraction 99 = .ok (.aload_n 0, 1) := by decide +kernel
theorem dX3_roundFraction_100 : decode cX3_roundFraction 100 = .ok (.aload_n 0, 1) := by decide +kernel
theorem dX3_roundFraction_101 : decode cX3_roundFraction 101 = .ok (.getfield 24, 3) := by decide +kernel
theorem dX3_roundFraction_104 : decode cX3_roundFraction 104 = .ok (.lload_n 1, 1) := by decide +kernel
theorem dX3_roundFraction_105 : decode cX3_roundFraction 105 = .ok (.invokevirtual 79, 3) := by decide +kernel
theorem dX3_roundFraction_108 : decode cX3_roundFraction 108 = .ok (.lcmp, 1) := by decide +kernel
theorem dX3_roundFraction_109 : decode cX3_roundFraction 109 = .ok (.ifCond .le 14, 3) := by decide +kernel
theorem dX3_roundFraction_112 : decode cX3_roundFraction 112 = .ok (.aload_n 0, 1) := by decide +kernel
theorem dX3_roundFraction_113 : decode cX3_roundFraction 113 = .ok (.getfield 12, 3) := by decide +kernel
theorem dX3_roundFraction_116 : decode cX3_roundFraction 116 = .ok (.aload_n 0, 1) := by decide +kernel
theorem dX3_roundFraction_117 : decode cX3_roundFraction 117 = .ok (.getfield 24, 3) := by decide +kernel
theorem dX3_roundFraction_120 : decode cX3_roundFraction 120 = .ok (.invokevirtual 83, 3) := by decide +kernel
theorem dX3_roundFraction_123 : decode cX3_roundFraction 123 = .ok (.return_, 1) := by decide +kernel
theorem dX3_nearest_0 : decode cX3_nearest 0 = .ok (.lload_n 2, 1) := by decide +kernel
theorem dX3_nearest_1 : decode cX3_nearest 1 = .ok (.lconst 0, 1) := by decide +kernel
theorem dX3_nearest_2 : decode cX3_nearest 2 = .ok (.lcmp, 1) := by decide +kernel
theorem dX3_nearest_3 : decode cX3_nearest 3 = .ok (.ifCond .ne 7, 3) := by decide +kernel
theorem dX3_nearest_6 : decode cX3_nearest 6 = .ok (.lconst 0, 1) := by decide +kernel
theorem dX3_nearest_7 : decode cX3_nearest 7 = .ok (.goto 18, 3) := by decide +kernel
theorem dX3_nearest_10 : decode cX3_nearest 10 = .ok (.ldc2_w 85, 3) := by decide +kernel
theorem dX3_nearest_13 : decode cX3_nearest 13 = .ok (.lload_n 0, 1) := by decide +kernel
theorem dX3_nearest_14 : decode cX3_nearest 14 = .ok (.lload_n 2, 1) := by decide +kernel
theorem dX3_nearest_15 : decode cX3_nearest 15 = .ok (.ladd, 1) := by decide +kernel
theorem dX3_nearest_16 : decode cX3_nearest 16 = .ok (.ldc2_w 85, 3) := by decide +kernel
theorem dX3_nearest_19 : decode cX3_nearest 19 = .ok (.lload_n 2, 1) := by decide +kernel
theorem dX3_nearest_20 : decode cX3_nearest 20 = .ok (.lmul, 1) := by decide +kernel
theorem dX3_nearest_21 : decode cX3_nearest 21 = .ok (.invokestatic 87, 3) := by decide +kernel
theorem dX3_nearest_24 : decode cX3_nearest 24 = .ok (.lmul, 1) := by decide +kernel
theorem dX3_nearest_25 : decode cX3_nearest 25 = .ok (.lreturn, 1) := by decide +kernel
theorem dX3_half_0 : decode cX3_half 0 = .ok (.lload_n 2, 1) := by decide +kernel
theorem dX3_half_1 : decode cX3_half 1 = .ok (.lconst 0, 1) := by decide +kernel
theorem dX3_half_2 : decode cX3_half 2 = .ok (.lcmp, 1) := by decide +kernel
theorem dX3_half_3 : decode cX3_half 3 = .ok (.ifCond .ne 7, 3) := by decide +kernel
theorem dX3_half_6 : decode cX3_half 6 = .ok (.lconst 0, 1) := by decide +kernel
theorem dX3_half_7 : decode cX3_half 7 = .ok (.goto 18, 3) := by decide +kernel
theorem dX3_half_10 : decode cX3_half 10 = .ok (.ldc2_w 85, 3) := by decide +kernel
theorem dX3_half_13 : decode cX3_half 13 = .ok (.lload_n 0, 1) := by decide +kernel
theorem dX3_half_14 : decode cX3_half 14 = .ok (.ldc2_w 85, 3) := by decide +kernel
theorem dX3_half_17 : decode cX3_half 17 = .ok (.lload_n 2, 1) := by decide +kernel
theorem dX3_half_18 : decode cX3_half 18 = .ok (.lmul, 1) := by decide +kernel
theorem dX3_half_19 : decode cX3_half 19 = .ok (.invokestatic 87, 3) := by decide +kernel
theorem dX3_half_22 : decode cX3_half 22 = .ok (.lmul, 1) := by decide +kernel
theorem dX3_half_23 : decode cX3_half 23 = .ok (.lconst 1, 1) := by decide +kernel
theorem dX3_half_24 : decode cX3_half 24 = .ok (.ladd, 1) := by decide +kernel
theorem dX3_half_25 : decode cX3_half 25 = .ok (.lreturn, 1) := by decide +kernel
theorem dX3_between_0 : decode cX3_between 0 = .ok (.aload_n 0, 1) := by decide +kernel
theorem dX3_between_1 : decode cX3_between 1 = .ok (.getfield 21, 3) := by decide +kernel
theorem dX3_between_4 : decode cX3_between 4 = .ok (.getfield 56, 3) := by decide +kernel
theorem dX3_between_7 : decode cX3_between 7 = .ok (.aload_n 1, 1) := by decide +kernel
theorem dX3_between_8 : decode cX3_between 8 = .ok (.getfield 56, 3) := by decide +kernel
theorem dX3_between_11 : decode cX3_between 11 = .ok (.lload_n 2, 1) := by decide +kernel
theorem dX3_between_12 : decode cX3_between 12 = .ok (.lmul, 1) := by decide +kernel
theorem dX3_between_13 : decode cX3_between 13 = .ok (.lsub, 1) := by decide +kernel
theorem dX3_between_14 : decode cX3_between 14 = .ok (.lstore 4, 2) := by decide +kernel
theorem dX3_between_16 : decode cX3_between 16 = .ok (.aload_n 0, 1) := by decide +kernel
theorem dX3_between_17 : decode cX3_between 17 = .ok (.getfield 21, 3) := by decide +kernel
theorem dX3_between_20 : decode cX3_between 20 = .ok (.getfield 63, 3) := by decide +kernel
theorem dX3_between_23 : decode cX3_between 23 = .ok (.aload_n 1, 1) := by decide +kernel
theorem dX3_between_24 : decode cX3_between 24 = .ok (.getfield 63, 3) := by decide +kernel
theorem dX3_between_27 : decode cX3_between 27 = .ok (.lload_n 2, 1) := by decide +kernel
theorem dX3_between_28 : decode cX3_between 28 = .ok (.lmul, 1) := by decide +kernel
theorem dX3_between_29 : decode cX3_between 29 = .ok (.lsub, 1) := by decide +kernel
theorem dX3_between_30 : decode cX3_between 30 = .ok (.lstore 6, 2) := by decide +kernel
theorem dX3_between_32 : decode cX3_between 32 = .ok (.aload_n 0, 1) := by decide +kernel
theorem dX3_between_33 : decode cX3_between 33 = .ok (.getfield 21, 3) := by decide +kernel
theorem dX3_between_36 : decode cX3_between 36 = .ok (.getfield 66, 3) := by decide +kernel
theorem dX3_between_39 : decode cX3_between 39 = .ok (.aload_n 1, 1) := by decide +kernel
theorem dX3_between_40 : decode cX3_between 40 = .ok (.getfield 66, 3) := by decide +kernel
theorem dX3_between_43 : decode cX3_between 43 = .ok (.lload_n 2, 1) := by decide +kernel
theorem dX3_between_44 : decode cX3_between 44 = .ok (.lmul, 1) := by decide +kernel
theorem dX3_between_45 : decode cX3_between 45 = .ok (.lsub, 1) := by decide +kernel
theorem dX3_between_46 : decode cX3_between 46 = .ok (.lstore 8, 2) := by decide +kernel
theorem dX3_between_48 : decode cX3_between 48 = .ok (.aload_n 0, 1) := by decide +kernel
theorem dX3_between_49 : decode cX3_between 49 = .ok (.getfield 21, 3) := by decide +kernel
theorem dX3_between_52 : decode cX3_between 52 = .ok (.getfield 69, 3) := by decide +kernel
theorem dX3_between_55 : decode cX3_between 55 = .ok (.aload_n 1, 1) := by decide +kernel
theorem dX3_between_56 : decode cX3_between 56 = .ok (.getfield 69, 3) := by decide +kernel
theorem dX3_between_59 : decode cX3_between 59 = .ok (.lload_n 2, 1) := by decide +kernel
theorem dX3_between_60 : decode cX3_between 60 = .ok (.lmul, 1) := by decide +kernel
theorem dX3_between_61 : decode cX3_between 61 = .ok (.lsub, 1) := by decide +kernel
theorem dX3_between_62 : decode cX3_between 62 = .ok (.lstore 10, 2) := by decide +kernel
theorem dX3_between_64 : decode cX3_between 64 = .ok (.lload 4, 2) := by decide +kernel
theorem dX3_between_66 : decode cX3_between 66 = .ok (.lload 4, 2) := by decide +kernel
theorem dX3_between_68 : decode cX3_between 68 = .ok (.lmul, 1) := by decide +kernel
theorem dX3_between_69 : decode cX3_between 69 = .ok (.lload 6, 2) := by decide +kernel
theorem dX3_between_71 : decode cX3_between 71 = .ok (.lload 6, 2) := by decide +kernel
theorem dX3_between_73 : decode cX3_between 73 = .ok (.lmul, 1) := by decide +kernel
theorem dX3_between_74 : decode cX3_between 74 = .ok (.ladd, 1) := by decide +kernel
theorem dX3_between_75 : decode cX3_between 75 = .ok (.lload 8, 2) := by decide +kernel
theorem dX3_between_77 : decode cX3_between 77 = .ok (.lload 8, 2) := by decide +kernel
theorem dX3_between_79 : decode cX3_between 79 = .ok (.lmul, 1) := by decide +kernel
theorem dX3_between_80 : decode cX3_between 80 = .ok (.ladd, 1) := by decide +kernel
theorem dX3_between_81 : decode cX3_between 81 = .ok (.lload 10, 2) := by decide +kernel
theorem dX3_between_83 : decode cX3_between 83 = .ok (.lload 10, 2) := by decide +kernel
theorem dX3_between_85 : decode cX3_between 85 = .ok (.lmul, 1) := by decide +kernel
theorem dX3_between_86 : decode cX3_between 86 = .ok (.ladd, 1) := by decide +kernel
theorem dX3_between_87 : decode cX3_between 87 = .ok (.lreturn, 1) := by decide +kernel
theorem dX4_init_0 : decode cX4_init 0 = .ok (.aload_n 0, 1) := by decide +kernel
theorem dX4_init_1 : decode cX4_init 1 = .ok (.invokespecial 3, 3) := by decide +kernel
theorem dX4_init_4 : decode cX4_init 4 = .ok (.return_, 1) := by decide +kernel
theorem dX4_become_0 : decode cX4_become 0 = .ok (.aload_n 0, 1) := by decide +kernel
theorem dX4_become_1 : decode cX4_become 1 = .ok (.lload_n 1, 1) := by decide +kernel
theorem dX4_become_2 : decode cX4_become 2 = .ok (.putfield 9, 3) := by decide +kernel
theorem dX4_become_5 : decode cX4_become 5 = .ok (.aload_n 0, 1) := by decide +kernel
theorem dX4_become_6 : decode cX4_become 6 = .ok (.lload_n 3, 1) := by decide +kernel
theorem dX4_become_7 : decode cX4_become 7 = .ok (.putfield 15, 3) := by decide +kernel
theorem dX4_become_10 : decode cX4_become 10 = .ok (.aload_n 0, 1) := by decide +kernel
theorem dX4_become_11 : decode cX4_become 11 = .ok (.lload 5, 2) := by decide +kernel
theorem dX4_become_13 : decode cX4_become 13 = .ok (.putfield 18, 3) := by decide +kernel
theorem dX4_become_16 : decode cX4_become 16 = .ok (.aload_n 0, 1) := by decide +kernel
theorem dX4_become_17 : decode cX4_become 17 = .ok (.lload 7, 2) := by decide +kernel
theorem dX4_become_19 : decode cX4_become 19 = .ok (.putfield 21, 3) := by decide +kernel
theorem dX4_become_22 : decode cX4_become 22 = .ok (.return_, 1) := by decide +kernel
theorem dX4_become__0 : decode cX4_become_ 0 = .ok (.aload_n 0, 1) := by decide +kernel
theorem dX4_become__1 : decode cX4_become_ 1 = .ok (.aload_n 1, 1) := by decide +kernel
theorem dX4_become__2 : decode cX4_become_ 2 = .ok (.getfield 9, 3) := by decide +kernel
theorem dX4_become__5 : decode cX4_become_ 5 = .ok (.aload_n 1, 1) := by decide +kernel
theorem dX4_become__6 : decode cX4_become_ 6 = .ok (.getfield 15, 3) := by decide +kernel
theorem dX4_become__9 : decode cX4_become_ 9 = .ok (.aload_n 1, 1) := by decide +kernel
theorem dX4_become__10 : decode cX4_become_ 10 = .ok (.getfield 18, 3) := by decide +kernel
theorem dX4_become__13 : decode cX4_become_ 13 = .ok (.aload_n 1, 1) := by decide +kernel
theorem dX4_become__14 : decode cX4_become_ 14 = .ok (.getfield 21, 3) := by decide +kernel
theorem dX4_become__17 : decode cX4_become_ 17 = .ok (.invokevirtual 24, 3) := by decide +kernel
theorem dX4_become__20 : decode cX4_become_ 20 = .ok (.return_, 1) := by decide +kernel
theorem dX4_becomeSum_0 : decode cX4_becomeSum 0 = .ok (.aload_n 0, 1) := by decide +kernel
theorem dX4_becomeSum_1 : decode cX4_becomeSum 1 = .ok (.aload_n 1, 1) := by decide +kernel
theorem dX4_becomeSum_2 : decode cX4_becomeSum 2 = .ok (.getfield 9, 3) := by decide +kernel
theorem dX4_becomeSum_5 : decode cX4_becomeSum 5 = .ok (.aload_n 2, 1) := by decide +kernel
theorem dX4_becomeSum_6 : decode cX4_becomeSum 6 = .ok (.getfield 9, 3) := by decide +kernel
theorem dX4_becomeSum_9 : decode cX4_becomeSum 9 = .ok (.ladd, 1) := by decide +kernel
theorem dX4_becomeSum_10 : decode cX4_becomeSum 10 = .ok (.aload_n 1, 1) := by decide +kernel
theorem dX4_becomeSum_11 : decode cX4_becomeSum 11 = .ok (.getfield 15, 3) := by decide +kernel
theorem dX4_becomeSum_14 : decode cX4_becomeSum 14 = .ok (.aload_n 2, 1) := by decide +kernel
theorem dX4_becomeSum_15 : decode cX4_becomeSum 15 = .ok (.getfield 15, 3) := by decide +kernel
theorem dX4_becomeSum_18 : decode cX4_becomeSum 18 = .ok (.ladd, 1) := by decide +kernel
theorem dX4_becomeSum_19 : decode cX4_becomeSum 19 = .ok (.aload_n 1, 1) := by decide +kernel
theorem dX4_becomeSum_20 : decode cX4_becomeSum 20 = .ok (.getfield 18, 3) := by decide +kernel
theorem dX4_becomeSum_23 : decode cX4_becomeSum 23 = .ok (.aload_n 2, 1) := by decide +kernel
theorem dX4_becomeSum_24 : decode cX4_becomeSum 24 = .ok (.getfield 18, 3) := by decide +kernel
theorem dX4_becomeSum_27 : decode cX4_becomeSum 27 = .ok (.ladd, 1) := by decide +kernel
theorem dX4_becomeSum_28 : decode cX4_becomeSum 28 = .ok (.aload_n 1, 1) := by decide +kernel
theorem dX4_becomeSum_29 : decode cX4_becomeSum 29 = .ok (.getfield 21, 3) := by decide +kernel
theorem dX4_becomeSum_32 : decode cX4_becomeSum 32 = .ok (.aload_n 2, 1) := by decide +kernel
theorem dX4_becomeSum_33 : decode cX4_becomeSum 33 = .ok (.getfield 21, 3) := by decide +kernel
theorem dX4_becomeSum_36 : decode cX4_becomeSum 36 = .ok (.ladd, 1) := by decide +kernel
theorem dX4_becomeSum_37 : decode cX4_becomeSum 37 = .ok (.invokevirtual 24, 3) := by decide +kernel
theorem dX4_becomeSum_40 : decode cX4_becomeSum 40 = .ok (.return_, 1) := by decide +kernel
theorem dX4_becomeDifference_0 : decode cX4_becomeDifference 0 = .ok (.aload_n 0, 1) := by decide +kernel
theorem dX4_becomeDifference_1 : decode cX4_becomeDifference 1 = .ok (.aload_n 1, 1) := by decide +kernel
theorem dX4_becomeDifference_2 : decode cX4_becomeDifference 2 = .ok (.getfield 9, 3) := by decide +kernel
theorem dX4_becomeDifference_5 : decode cX4_becomeDifference 5 = .ok (.aload_n 2, 1) := by decide +kernel
theorem dX4_becomeDifference_6 : decode cX4_becomeDifference 6 = .ok (.getfield 9, 3) := by decide +kernel
theorem dX4_becomeDifference_9 : decode cX4_becomeDifference 9 = .ok (.lsub, 1) := by decide +kernel
theorem dX4_becomeDifference_10 : decode cX4_becomeDifference 10 = .ok (.aload_n 1, 1) := by decide +kernel
theorem dX4_becomeDifference_11 : decode cX4_becomeDifference 11 = .ok (.getfield 15, 3) := by decide +kernel
theorem dX4_becomeDifference_14 : decode cX4_becomeDifference 14 = .ok (.aload_n 2, 1) := by decide +kernel
theorem dX4_becomeDifference_15 : decode cX4_becomeDifference 15 = .ok (.getfield 15, 3) := by decide +kernel
theorem dX4_becomeDifference_18 : decode cX4_becomeDifference 18 = .ok (.lsub, 1) := by decide +kernel
theorem dX4_becomeDifference_19 : decode cX4_becomeDifference 19 = .ok (.aload_n 1, 1) := by decide +kernel
theorem dX4_becomeDifference_20 : decode cX4_becomeDifference 20 = .ok (.getfield 18, 3) := by decide +kernel
theorem dX4_becomeDifference_23 : decode cX4_becomeDifference 23 = .ok (.aload_n 2, 1) := by decide +kernel
theorem dX4_becomeDifference_24 : decode cX4_becomeDifference 24 = .ok (.getfield 18, 3) := by decide +kernel
theorem dX4_becomeDifference_27 : decode cX4_becomeDifference 27 = .ok (.lsub, 1) := by decide +kernel
theorem dX4_becomeDifference_28 : decode cX4_becomeDifference 28 = .ok (.aload_n 1, 1) := by decide +kernel
theorem dX4_becomeDifference_29 : decode cX4_becomeDifference 29 = .ok (.getfield 21, 3) := by decide +kernel
theorem dX4_becomeDifference_32 : decode cX4_becomeDifference 32 = .ok (.aload_n 2, 1) := by decide +kernel
theorem dX4_becomeDifference_33 : decode cX4_becomeDifference 33 = .ok (.getfield 21, 3) := by decide +kernel
theorem dX4_becomeDifference_36 : decode cX4_becomeDifference 36 = .ok (.lsub, 1) := by decide +kernel
theorem dX4_becomeDifference_37 : decode cX4_becomeDifference 37 = .ok (.invokevirtual 24, 3) := by decide +kernel
theorem dX4_becomeDifference_40 : decode cX4_becomeDifference 40 = .ok (.return_, 1) := by decide +kernel
theorem dX4_becomeBack_0 : decode cX4_becomeBack 0 = .ok (.aload_n 0, 1) := by decide +kernel
theorem dX4_becomeBack_1 : decode cX4_becomeBack 1 = .ok (.aload_n 1, 1) := by decide +kernel
theorem dX4_becomeBack_2 : decode cX4_becomeBack 2 = .ok (.getfield 9, 3) := by decide +kernel
theorem dX4_becomeBack_5 : decode cX4_becomeBack 5 = .ok (.aload_n 1, 1) := by decide +kernel
theorem dX4_becomeBack_6 : decode cX4_becomeBack 6 = .ok (.getfield 15, 3) := by decide +kernel
theorem dX4_becomeBack_9 : decode cX4_becomeBack 9 = .ok (.lneg, 1) := by decide +kernel
theorem dX4_becomeBack_10 : decode cX4_becomeBack 10 = .ok (.aload_n 1, 1) := by decide +kernel
theorem dX4_becomeBack_11 : decode cX4_becomeBack 11 = .ok (.getfield 18, 3) := by decide +kernel
theorem dX4_becomeBack_14 : decode cX4_becomeBack 14 = .ok (.lneg, 1) := by decide +kernel
theorem dX4_becomeBack_15 : decode cX4_becomeBack 15 = .ok (.aload_n 1, 1) := by decide +kernel
theorem dX4_becomeBack_16 : decode cX4_becomeBack 16 = .ok (.getfield 21, 3) := by decide +kernel
theorem dX4_becomeBack_19 : decode cX4_becomeBack 19 = .ok (.lneg, 1) := by decide +kernel
theorem dX4_becomeBack_20 : decode cX4_becomeBack 20 = .ok (.invokevirtual 24, 3) := by decide +kernel
theorem dX4_becomeBack_23 : decode cX4_becomeBack 23 = .ok (.return_, 1) := by decide +kernel
theorem dX4_becomeProduct_0 : decode cX4_becomeProduct 0 = .ok (.aload_n 1, 1) := by decide +kernel
theorem dX4_becomeProduct_1 : decode cX4_becomeProduct 1 = .ok (.getfield 9, 3) := by decide +kernel
theorem dX4_becomeProduct_4 : decode cX4_becomeProduct 4 = .ok (.aload_n 2, 1) := by decide +kernel
theorem dX4_becomeProduct_5 : decode cX4_becomeProduct 5 = .ok (.getfield 9, 3) := by decide +kernel
theorem dX4_becomeProduct_8 : decode cX4_becomeProduct 8 = .ok (.lmul, 1) := by decide +kernel
theorem dX4_becomeProduct_9 : decode cX4_becomeProduct 9 = .ok (.aload_n 1, 1) := by decide +kernel
theorem dX4_becomeProduct_10 : decode cX4_becomeProduct 10 = .ok (.getfield 15, 3) := by decide +kernel
theorem dX4_becomeProduct_13 : decode cX4_becomeProduct 13 = .ok (.aload_n 2, 1) := by decide +kernel
theorem dX4_becomeProduct_14 : decode cX4_becomeProduct 14 = .ok (.getfield 15, 3) := by decide +kernel
theorem dX4_becomeProduct_17 : decode cX4_becomeProduct 17 = .ok (.lmul, 1) := by decide +kernel
theorem dX4_becomeProduct_18 : decode cX4_becomeProduct 18 = .ok (.lsub, 1) := by decide +kernel
theorem dX4_becomeProduct_19 : decode cX4_becomeProduct 19 = .ok (.aload_n 1, 1) := by decide +kernel
theorem dX4_becomeProduct_20 : decode cX4_becomeProduct 20 = .ok (.getfield 18, 3) := by decide +kernel
theorem dX4_becomeProduct_23 : decode cX4_becomeProduct 23 = .ok (.aload_n 2, 1) := by decide +kernel
theorem dX4_becomeProduct_24 : decode cX4_becomeProduct 24 = .ok (.getfield 18, 3) := by decide +kernel
theorem dX4_becomeProduct_27 : decode cX4_becomeProduct 27 = .ok (.lmul, 1) := by decide +kernel
theorem dX4_becomeProduct_28 : decode cX4_becomeProduct 28 = .ok (.lsub, 1) := by decide +kernel
theorem dX4_becomeProduct_29 : decode cX4_becomeProduct 29 = .ok (.aload_n 1, 1) := by decide +kernel
theorem dX4_becomeProduct_30 : decode cX4_becomeProduct 30 = .ok (.getfield 21, 3) := by decide +kernel
theorem dX4_becomeProduct_33 : decode cX4_becomeProduct 33 = .ok (.aload_n 2, 1) := by decide +kernel
theorem dX4_becomeProduct_34 : decode cX4_becomeProduct 34 = .ok (.getfield 21, 3) := by decide +kernel
theorem dX4_becomeProduct_37 : decode cX4_becomeProduct 37 = .ok (.lmul, 1) := by decide +kernel
theorem dX4_becomeProduct_38 : decode cX4_becomeProduct 38 = .ok (.lsub, 1) := by decide +kernel
theorem dX4_becomeProduct_39 : decode cX4_becomeProduct 39 = .ok (.lstore_n 3, 1) := by decide +kernel
theorem dX4_becomeProduct_40 : decode cX4_becomeProduct 40 = .ok (.aload_n 1, 1) := by decide +kernel
theorem dX4_becomeProduct_41 : decode cX4_becomeProduct 41 = .ok (.getfield 9, 3) := by decide +kernel
theorem dX4_becomeProduct_44 : decode cX4_becomeProduct 44 = .ok (.aload_n 2, 1) := by decide +kernel
theorem dX4_becomeProduct_45 : decode cX4_becomeProduct 45 = .ok (.getfield 15, 3) := by decide +kernel
theorem dX4_becomeProduct_48 : decode cX4_becomeProduct 48 = .ok (.lmul, 1) := by decide +kernel
theorem dX4_becomeProduct_49 : decode cX4_becomeProduct 49 = .ok (.aload_n 1, 1) := by decide +kernel
theorem dX4_becomeProduct_50 : decode cX4_becomeProduct 50 = .ok (.getfield 15, 3) := by decide +kernel
theorem dX4_becomeProduct_53 : decode cX4_becomeProduct 53 = .ok (.aload_n 2, 1) := by decide +kernel
theorem dX4_becomeProduct_54 : decode cX4_becomeProduct 54 = .ok (.getfield 9, 3) := by decide +kernel
theorem dX4_becomeProduct_57 : decode cX4_becomeProduct 57 = .ok (.lmul, 1) := by decide +kernel
theorem dX4_becomeProduct_58 : decode cX4_becomeProduct 58 = .ok (.ladd, 1) := by decide +kernel
theorem dX4_becomeProduct_59 : decode cX4_becomeProduct 59 = .ok (.aload_n 1, 1) := by decide +kernel
theorem dX4_becomeProduct_60 : decode cX4_becomeProduct 60 = .ok (.getfield 18, 3) := by decide +kernel
theorem dX4_becomeProduct_63 : decode cX4_becomeProduct 63 = .ok (.aload_n 2, 1) := by decide +kernel
theorem dX4_becomeProduct_64 : decode cX4_becomeProduct 64 = .ok (.getfield 21, 3) := by decide +kernel
theorem dX4_becomeProduct_67 : decode cX4_becomeProduct 67 = .ok (.lmul, 1) := by decide +kernel
theorem dX4_becomeProduct_68 : decode cX4_becomeProduct 68 = .ok (.ladd, 1) := by decide +kernel
theorem dX4_becomeProduct_69 : decode cX4_becomeProduct 69 = .ok (.aload_n 1, 1) := by decide +kernel
theorem dX4_becomeProduct_70 : decode cX4_becomeProduct 70 = .ok (.getfield 21, 3) := by decide +kernel
theorem dX4_becomeProduct_73 : decode cX4_becomeProduct 73 = .ok (.aload_n 2, 1) := by decide +kernel
theorem dX4_becomeProduct_74 : decode cX4_becomeProduct 74 = .ok (.getfield 18, 3) := by decide +kernel
theorem dX4_becomeProduct_77 : decode cX4_becomeProduct 77 = .ok (.lmul, 1) := by decide +kernel
theorem dX4_becomeProduct_78 : decode cX4_becomeProduct 78 = .ok (.lsub, 1) := by decide +kernel
theorem dX4_becomeProduct_79 : decode cX4_becomeProduct 79 = .ok (.lstore 5, 2) := by decide +kernel
theorem dX4_becomeProduct_81 : decode cX4_becomeProduct 81 = .ok (.aload_n 1, 1) := by decide +kernel
theorem dX4_becomeProduct_82 : decode cX4_becomeProduct 82 = .ok (.getfield 9, 3) := by decide +kernel
theorem dX4_becomeProduct_85 : decode cX4_becomeProduct 85 = .ok (.aload_n 2, 1) := by decide +kernel
theorem dX4_becomeProduct_86 : decode cX4_becomeProduct 86 = .ok (.getfield 18, 3) := by decide +kernel
theorem dX4_becomeProduct_89 : decode cX4_becomeProduct 89 = .ok (.lmul, 1) := by decide +kernel
theorem dX4_becomeProduct_90 : decode cX4_becomeProduct 90 = .ok (.aload_n 1, 1) := by decide +kernel
theorem dX4_becomeProduct_91 : decode cX4_becomeProduct 91 = .ok (.getfield 15, 3) := by decide +kernel
theorem dX4_becomeProduct_94 : decode cX4_becomeProduct 94 = .ok (.aload_n 2, 1) := by decide +kernel
theorem dX4_becomeProduct_95 : decode cX4_becomeProduct 95 = .ok (.getfield 21, 3) := by decide +kernel
theorem dX4_becomeProduct_98 : decode cX4_becomeProduct 98 = .ok (.lmul, 1) := by decide +kernel
theorem dX4_becomeProduct_99 : decode cX4_becomeProduct 99 = .ok (.lsub, 1) := by decide +kernel
theorem dX4_becomeProduct_100 : decode cX4_becomeProduct 100 = .ok (.aload_n 1, 1) := by decide +kernel
theorem dX4_becomeProduct_101 : decode cX4_becomeProduct 101 = .ok (.getfield 18, 3) := by decide +kernel
theorem dX4_becomeProduct_104 : decode cX4_becomeProduct 104 = .ok (.aload_n 2, 1) := by decide +kernel
theorem dX4_becomeProduct_105 : decode cX4_becomeProduct 105 = .ok (.getfield 9, 3) := by decide +kernel
theorem dX4_becomeProduct_108 : decode cX4_becomeProduct 108 = .ok (.lmul, 1) := by decide +kernel
theorem dX4_becomeProduct_109 : decode cX4_becomeProduct 109 = .ok (.ladd, 1) := by decide +kernel
theorem dX4_becomeProduct_110 : decode cX4_becomeProduct 110 = .ok (.aload_n 1, 1) := by decide +kernel
theorem dX4_becomeProduct_111 : decode cX4_becomeProduct 111 = .ok (.getfield 21, 3) := by decide +kernel
theorem dX4_becomeProduct_114 : decode cX4_becomeProduct 114 = .ok (.aload_n 2, 1) := by decide +kernel
theorem dX4_becomeProduct_115 : decode cX4_becomeProduct 115 = .ok (.getfield 15, 3) := by decide +kernel
theorem dX4_becomeProduct_118 : decode cX4_becomeProduct 118 = .ok (.lmul, 1) := by decide +kernel
theorem dX4_becomeProduct_119 : decode cX4_becomeProduct 119 = .ok (.ladd, 1) := by decide +kernel
theorem dX4_becomeProduct_120 : decode cX4_becomeProduct 120 = .ok (.lstore 7, 2) := by decide +kernel
theorem dX4_becomeProduct_122 : decode cX4_becomeProduct 122 = .ok (.aload_n 1, 1) := by decide +kernel
theorem dX4_becomeProduct_123 : decode cX4_becomeProduct 123 = .ok (.getfield 9, 3) := by decide +kernel
theorem dX4_becomeProduct_126 : decode cX4_becomeProduct 126 = .ok (.aload_n 2, 1) := by decide +kernel
theorem dX4_becomeProduct_127 : decode cX4_becomeProduct 127 = .ok (.getfield 21, 3) := by decide +kernel
theorem dX4_becomeProduct_130 : decode cX4_becomeProduct 130 = .ok (.lmul, 1) := by decide +kernel
theorem dX4_becomeProduct_131 : decode cX4_becomeProduct 131 = .ok (.aload_n 1, 1) := by decide +kernel
theorem dX4_becomeProduct_132 : decode cX4_becomeProduct 132 = .ok (.getfield 15, 3) := by decide +kernel
theorem dX4_becomeProduct_135 : decode cX4_becomeProduct 135 = .ok (.aload_n 2, 1) := by decide +kernel
theorem dX4_becomeProduct_136 : decode cX4_becomeProduct 136 = .ok (.getfield 18, 3) := by decide +kernel
theorem dX4_becomeProduct_139 : decode cX4_becomeProduct 139 = .ok (.lmul, 1) := by decide +kernel
theorem dX4_becomeProduct_140 : decode cX4_becomeProduct 140 = .ok (.ladd, 1) := by decide +kernel
theorem dX4_becomeProduct_141 : decode cX4_becomeProduct 141 = .ok (.aload_n 1, 1) := by decide +kernel
theorem dX4_becomeProduct_142 : decode cX4_becomeProduct 142 = .ok (.getfield 18, 3) := by decide +kernel
theorem dX4_becomeProduct_145 : decode cX4_becomeProduct 145 = .ok (.aload_n 2, 1) := by decide +kernel
theorem dX4_becomeProduct_146 : decode cX4_becomeProduct 146 = .ok (.getfield 15, 3) := by decide +kernel
theorem dX4_becomeProduct_149 : decode cX4_becomeProduct 149 = .ok (.lmul, 1) := by decide +kernel
theorem dX4_becomeProduct_150 : decode cX4_becomeProduct 150 = .ok (.lsub, 1) := by decide +kernel
theorem dX4_becomeProduct_151 : decode cX4_becomeProduct 151 = .ok (.aload_n 1, 1) := by decide +kernel
theorem dX4_becomeProduct_152 : decode cX4_becomeProduct 152 = .ok (.getfield 21, 3) := by decide +kernel
theorem dX4_becomeProduct_155 : decode cX4_becomeProduct 155 = .ok (.aload_n 2, 1) := by decide +kernel
theorem dX4_becomeProduct_156 : decode cX4_becomeProduct 156 = .ok (.getfield 9, 3) := by decide +kernel
theorem dX4_becomeProduct_159 : decode cX4_becomeProduct 159 = .ok (.lmul, 1) := by decide +kernel
theorem dX4_becomeProduct_160 : decode cX4_becomeProduct 160 = .ok (.ladd, 1) := by decide +kernel
theorem dX4_becomeProduct_161 : decode cX4_becomeProduct 161 = .ok (.lstore 9, 2) := by decide +kernel
theorem dX4_becomeProduct_163 : decode cX4_becomeProduct 163 = .ok (.aload_n 0, 1) := by decide +kernel
theorem dX4_becomeProduct_164 : decode cX4_becomeProduct 164 = .ok (.lload_n 3, 1) := by decide +kernel
theorem dX4_becomeProduct_165 : decode cX4_becomeProduct 165 = .ok (.ldc2_w 28, 3) := by decide +kernel
theorem dX4_becomeProduct_168 : decode cX4_becomeProduct 168 = .ok (.ldiv, 1) := by decide +kernel
theorem dX4_becomeProduct_169 : decode cX4_becomeProduct 169 = .ok (.lload 5, 2) := by decide +kernel
theorem dX4_becomeProduct_171 : decode cX4_becomeProduct 171 = .ok (.ldc2_w 28, 3) := by decide +kernel
theorem dX4_becomeProduct_174 : decode cX4_becomeProduct 174 = .ok (.ldiv, 1) := by decide +kernel
theorem dX4_becomeProduct_175 : decode cX4_becomeProduct 175 = .ok (.lload 7, 2) := by decide +kernel
theorem dX4_becomeProduct_177 : decode cX4_becomeProduct 177 = .ok (.ldc2_w 28, 3) := by decide +kernel
theorem dX4_becomeProduct_180 : decode cX4_becomeProduct 180 = .ok (.ldiv, 1) := by decide +kernel
theorem dX4_becomeProduct_181 : decode cX4_becomeProduct 181 = .ok (.lload 9, 2) := by decide +kernel
theorem dX4_becomeProduct_183 : decode cX4_becomeProduct 183 = .ok (.ldc2_w 28, 3) := by decide +kernel
theorem dX4_becomeProduct_186 : decode cX4_becomeProduct 186 = .ok (.ldiv, 1) := by decide +kernel
theorem dX4_becomeProduct_187 : decode cX4_becomeProduct 187 = .ok (.invokevirtual 24, 3) := by decide +kernel
theorem dX4_becomeProduct_190 : decode cX4_becomeProduct 190 = .ok (.return_, 1) := by decide +kernel
theorem dX4_becomeUnit_0 : decode cX4_becomeUnit 0 = .ok (.iload_n 1, 1) := by decide +kernel
theorem dX4_becomeUnit_1 : decode cX4_becomeUnit 1 = .ok (.bipush 16, 2) := by decide +kernel
theorem dX4_becomeUnit_3 : decode cX4_becomeUnit 3 = .ok (.if_icmp .ge 38, 3) := by decide +kernel
theorem dX4_becomeUnit_6 : decode cX4_becomeUnit 6 = .ok (.aload_n 0, 1) := by decide +kernel
theorem dX4_becomeUnit_7 : decode cX4_becomeUnit 7 = .ok (.iconst 1, 1) := by decide +kernel
theorem dX4_becomeUnit_8 : decode cX4_becomeUnit 8 = .ok (.iload_n 1, 1) := by decide +kernel
theorem dX4_becomeUnit_9 : decode cX4_becomeUnit 9 = .ok (.iconst 2, 1) := by decide +kernel
theorem dX4_becomeUnit_10 : decode cX4_becomeUnit 10 = .ok (.iand, 1) := by decide +kernel
theorem dX4_becomeUnit_11 : decode cX4_becomeUnit 11 = .ok (.isub, 1) := by decide +kernel
theorem dX4_becomeUnit_12 : decode cX4_becomeUnit 12 = .ok (.i2l, 1) := by decide +kernel
theorem dX4_becomeUnit_13 : decode cX4_becomeUnit 13 = .ok (.iconst 1, 1) := by decide +kernel
theorem dX4_becomeUnit_14 : decode cX4_becomeUnit 14 = .ok (.iload_n 1, 1) := by decide +kernel
theorem dX4_becomeUnit_15 : decode cX4_becomeUnit 15 = .ok (.iconst 1, 1) := by decide +kernel
theorem dX4_becomeUnit_16 : decode cX4_becomeUnit 16 = .ok (.ishr, 1) := by decide +kernel
theorem dX4_becomeUnit_17 : decode cX4_becomeUnit 17 = .ok (.iconst 2, 1) := by decide +kernel
theorem dX4_becomeUnit_18 : decode cX4_becomeUnit 18 = .ok (.iand, 1) := by decide +kernel
theorem dX4_becomeUnit_19 : decode cX4_becomeUnit 19 = .ok (.isub, 1) := by decide +kernel
theorem dX4_becomeUnit_20 : decode cX4_becomeUnit 20 = .ok (.i2l, 1) := by decide +kernel
theorem dX4_becomeUnit_21 : decode cX4_becomeUnit 21 = .ok (.iconst 1, 1) := by decide +kernel
theorem dX4_becomeUnit_22 : decode cX4_becomeUnit 22 = .ok (.iload_n 1, 1) := by decide +kernel
theorem dX4_becomeUnit_23 : decode cX4_becomeUnit 23 = .ok (.iconst 2, 1) := by decide +kernel
theorem dX4_becomeUnit_24 : decode cX4_becomeUnit 24 = .ok (.ishr, 1) := by decide +kernel
theorem dX4_becomeUnit_25 : decode cX4_becomeUnit 25 = .ok (.iconst 2, 1) := by decide +kernel
theorem dX4_becomeUnit_26 : decode cX4_becomeUnit 26 = .ok (.iand, 1) := by decide +kernel
theorem dX4_becomeUnit_27 : decode cX4_becomeUnit 27 = .ok (.isub, 1) := by decide +kernel
theorem dX4_becomeUnit_28 : decode cX4_becomeUnit 28 = .ok (.i2l, 1) := by decide +kernel
theorem dX4_becomeUnit_29 : decode cX4_becomeUnit 29 = .ok (.iconst 1, 1) := by decide +kernel
theorem dX4_becomeUnit_30 : decode cX4_becomeUnit 30 = .ok (.iload_n 1, 1) := by decide +kernel
theorem dX4_becomeUnit_31 : decode cX4_becomeUnit 31 = .ok (.iconst 1, 1) := by decide +kernel
theorem dX4_becomeUnit_32 : decode cX4_becomeUnit 32 = .ok (.ishl, 1) := by decide +kernel
theorem dX4_becomeUnit_33 : decode cX4_becomeUnit 33 = .ok (.iconst 2, 1) := by decide +kernel
theorem dX4_becomeUnit_34 : decode cX4_becomeUnit 34 = .ok (.iand, 1) := by decide +kernel
theorem dX4_becomeUnit_35 : decode cX4_becomeUnit 35 = .ok (.isub, 1) := by decide +kernel
theorem dX4_becomeUnit_36 : decode cX4_becomeUnit 36 = .ok (.i2l, 1) := by decide +kernel
theorem dX4_becomeUnit_37 : decode cX4_becomeUnit 37 = .ok (.invokevirtual 24, 3) := by decide +kernel
theorem dX4_becomeUnit_40 : decode cX4_becomeUnit 40 = .ok (.return_, 1) := by decide +kernel
theorem dX4_becomeUnit_41 : decode cX4_becomeUnit 41 = .ok (.iload_n 1, 1) := by decide +kernel
theorem dX4_becomeUnit_42 : decode cX4_becomeUnit 42 = .ok (.bipush 16, 2) := by decide +kernel
theorem dX4_becomeUnit_44 : decode cX4_becomeUnit 44 = .ok (.isub, 1) := by decide +kernel
theorem dX4_becomeUnit_45 : decode cX4_becomeUnit 45 = .ok (.iconst 1, 1) := by decide +kernel
theorem dX4_becomeUnit_46 : decode cX4_becomeUnit 46 = .ok (.ishr, 1) := by decide +kernel
theorem dX4_becomeUnit_47 : decode cX4_becomeUnit 47 = .ok (.istore_n 2, 1) := by decide +kernel
theorem dX4_becomeUnit_48 : decode cX4_becomeUnit 48 = .ok (.iload_n 1, 1) := by decide +kernel
theorem dX4_becomeUnit_49 : decode cX4_becomeUnit 49 = .ok (.iconst 1, 1) := by decide +kernel
theorem dX4_becomeUnit_50 : decode cX4_becomeUnit 50 = .ok (.iand, 1) := by decide +kernel
theorem dX4_becomeUnit_51 : decode cX4_becomeUnit 51 = .ok (.ifCond .ne 9, 3) := by decide +kernel
theorem dX4_becomeUnit_54 : decode cX4_becomeUnit 54 = .ok (.ldc2_w 28, 3) := by decide +kernel
theorem dX4_becomeUnit_57 : decode cX4_becomeUnit 57 = .ok (.goto 6, 3) := by decide +kernel
theorem dX4_becomeUnit_60 : decode cX4_becomeUnit 60 = .ok (.ldc2_w 30, 3) := by decide +kernel
theorem dX4_becomeUnit_63 : decode cX4_becomeUnit 63 = .ok (.lstore_n 3, 1) := by decide +kernel
theorem dX4_becomeUnit_64 : decode cX4_becomeUnit 64 = .ok (.aload_n 0, 1) := by decide +kernel
theorem dX4_becomeUnit_65 : decode cX4_becomeUnit 65 = .ok (.iload_n 2, 1) := by decide +kernel
theorem dX4_becomeUnit_66 : decode cX4_becomeUnit 66 = .ok (.ifCond .ne 7, 3) := by decide +kernel
theorem dX4_becomeUnit_69 : decode cX4_becomeUnit 69 = .ok (.lload_n 3, 1) := by decide +kernel
theorem dX4_becomeUnit_70 : decode cX4_becomeUnit 70 = .ok (.goto 4, 3) := by decide +kernel
theorem dX4_becomeUnit_73 : decode cX4_becomeUnit 73 = .ok (.lconst 0, 1) := by decide +kernel
theorem dX4_becomeUnit_74 : decode cX4_becomeUnit 74 = .ok (.iload_n 2, 1) := by decide +kernel
theorem dX4_becomeUnit_75 : decode cX4_becomeUnit 75 = .ok (.iconst 1, 1) := by decide +kernel
theorem dX4_becomeUnit_76 : decode cX4_becomeUnit 76 = .ok (.if_icmp .ne 7, 3) := by decide +kernel
theorem dX4_becomeUnit_79 : decode cX4_becomeUnit 79 = .ok (.lload_n 3, 1) := by decide +kernel
theorem dX4_becomeUnit_80 : decode cX4_becomeUnit 80 = .ok (.goto 4, 3) := by decide +kernel
theorem dX4_becomeUnit_83 : decode cX4_becomeUnit 83 = .ok (.lconst 0, 1) := by decide +kernel
theorem dX4_becomeUnit_84 : decode cX4_becomeUnit 84 = .ok (.iload_n 2, 1) := by decide +kernel
theorem dX4_becomeUnit_85 : decode cX4_becomeUnit 85 = .ok (.iconst 2, 1) := by decide +kernel
theorem dX4_becomeUnit_86 : decode cX4_becomeUnit 86 = .ok (.if_icmp .ne 7, 3) := by decide +kernel
theorem dX4_becomeUnit_89 : decode cX4_becomeUnit 89 = .ok (.lload_n 3, 1) := by decide +kernel
theorem dX4_becomeUnit_90 : decode cX4_becomeUnit 90 = .ok (.goto 4, 3) := by decide +kernel
theorem dX4_becomeUnit_93 : decode cX4_becomeUnit 93 = .ok (.lconst 0, 1) := by decide +kernel
theorem dX4_becomeUnit_94 : decode cX4_becomeUnit 94 = .ok (.iload_n 2, 1) := by decide +kernel
theorem dX4_becomeUnit_95 : decode cX4_becomeUnit 95 = .ok (.iconst 3, 1) := by decide +kernel
theorem dX4_becomeUnit_96 : decode cX4_becomeUnit 96 = .ok (.if_icmp .ne 7, 3) := by decide +kernel
theorem dX4_becomeUnit_99 : decode cX4_becomeUnit 99 = .ok (.lload_n 3, 1) := by decide +kernel
theorem dX4_becomeUnit_100 : decode cX4_becomeUnit 100 = .ok (.goto 4, 3) := by decide +kernel
theorem dX4_becomeUnit_103 : decode cX4_becomeUnit 103 = .ok (.lconst 0, 1) := by decide +kernel
theorem dX4_becomeUnit_104 : decode cX4_becomeUnit 104 = .ok (.invokevirtual 24, 3) := by decide +kernel
theorem dX4_becomeUnit_107 : decode cX4_becomeUnit 107 = .ok (.return_, 1) := by decide +kernel
theorem dX4_divideBy_0 : decode cX4_divideBy 0 = .ok (.lload_n 1, 1) := by decide +kernel
theorem dX4_divideBy_1 : decode cX4_divideBy 1 = .ok (.lconst 0, 1) := by decide +kernel
theorem dX4_divideBy_2 : decode cX4_divideBy 2 = .ok (.lcmp, 1) := by decide +kernel
theorem dX4_divideBy_3 : decode cX4_divideBy 3 = .ok (.ifCond .ne 4, 3) := by decide +kernel
theorem dX4_divideBy_6 : decode cX4_divideBy 6 = .ok (.return_, 1) := by decide +kernel
theorem dX4_divideBy_7 : decode cX4_divideBy 7 = .ok (.aload_n 0, 1) := by decide +kernel
theorem dX4_divideBy_8 : decode cX4_divideBy 8 = .ok (.aload_n 0, 1) := by decide +kernel
theorem dX4_divideBy_9 : decode cX4_divideBy 9 = .ok (.getfield 9, 3) := by decide +kernel
theorem dX4_divideBy_12 : decode cX4_divideBy 12 = .ok (.lload_n 1, 1) := by decide +kernel
theorem dX4_divideBy_13 : decode cX4_divideBy 13 = .ok (.ldiv, 1) := by decide +kernel
theorem dX4_divideBy_14 : decode cX4_divideBy 14 = .ok (.aload_n 0, 1) := by decide +kernel
theorem dX4_divideBy_15 : decode cX4_divideBy 15 = .ok (.getfield 15, 3) := by decide +kernel
theorem dX4_divideBy_18 : decode cX4_divideBy 18 = .ok (.lload_n 1, 1) := by decide +kernel
theorem dX4_divideBy_19 : decode cX4_divideBy 19 = .ok (.ldiv, 1) := by decide +kernel
theorem dX4_divideBy_20 : decode cX4_divideBy 20 = .ok (.aload_n 0, 1) := by decide +kernel
theorem dX4_divideBy_21 : decode cX4_divideBy 21 = .ok (.getfield 18, 3) := by decide +kernel
theorem dX4_divideBy_24 : decode cX4_divideBy 24 = .ok (.lload_n 1, 1) := by decide +kernel
theorem dX4_divideBy_25 : decode cX4_divideBy 25 = .ok (.ldiv, 1) := by decide +kernel
theorem dX4_divideBy_26 : decode cX4_divideBy 26 = .ok (.aload_n 0, 1) := by decide +kernel
theorem dX4_divideBy_27 : decode cX4_divideBy 27 = .ok (.getfield 21, 3) := by decide +kernel
theorem dX4_divideBy_30 : decode cX4_divideBy 30 = .ok (.lload_n 1, 1) := by decide +kernel
theorem dX4_divideBy_31 : decode cX4_divideBy 31 = .ok (.ldiv, 1) := by decide +kernel
theorem dX4_divideBy_32 : decode cX4_divideBy 32 = .ok (.invokevirtual 24, 3) := by decide +kernel
theorem dX4_divideBy_35 : decode cX4_divideBy 35 = .ok (.return_, 1) := by decide +kernel
theorem dX4_numberAt_0 : decode cX4_numberAt 0 = .ok (.iload_n 1, 1) := by decide +kernel
theorem dX4_numberAt_1 : decode cX4_numberAt 1 = .ok (.ifCond .ne 10, 3) := by decide +kernel
theorem dX4_numberAt_4 : decode cX4_numberAt 4 = .ok (.aload_n 0, 1) := by decide +kernel
theorem dX4_numberAt_5 : decode cX4_numberAt 5 = .ok (.getfield 9, 3) := by decide +kernel
theorem dX4_numberAt_8 : decode cX4_numberAt 8 = .ok (.goto 31, 3) := by decide +kernel
theorem dX4_numberAt_11 : decode cX4_numberAt 11 = .ok (.iload_n 1, 1) := by decide +kernel
theorem dX4_numberAt_12 : decode cX4_numberAt 12 = .ok (.iconst 1, 1) := by decide +kernel
theorem dX4_numberAt_13 : decode cX4_numberAt 13 = .ok (.if_icmp .ne 10, 3) := by decide +kernel
theorem dX4_numberAt_16 : decode cX4_numberAt 16 = .ok (.aload_n 0, 1) := by decide +kernel
theorem dX4_numberAt_17 : decode cX4_numberAt 17 = .ok (.getfield 15, 3) := by decide +kernel
theorem dX4_numberAt_20 : decode cX4_numberAt 20 = .ok (.goto 19, 3) := by decide +kernel
theorem dX4_numberAt_23 : decode cX4_numberAt 23 = .ok (.iload_n 1, 1) := by decide +kernel
theorem dX4_numberAt_24 : decode cX4_numberAt 24 = .ok (.iconst 2, 1) := by decide +kernel
theorem dX4_numberAt_25 : decode cX4_numberAt 25 = .ok (.if_icmp .ne 10, 3) := by decide +kernel
theorem dX4_numberAt_28 : decode cX4_numberAt 28 = .ok (.aload_n 0, 1) := by decide +kernel
theorem dX4_numberAt_29 : decode cX4_numberAt 29 = .ok (.getfield 18, 3) := by decide +kernel
theorem dX4_numberAt_32 : decode cX4_numberAt 32 = .ok (.goto 7, 3) := by decide +kernel
theorem dX4_numberAt_35 : decode cX4_numberAt 35 = .ok (.aload_n 0, 1) := by decide +kernel
theorem dX4_numberAt_36 : decode cX4_numberAt 36 = .ok (.getfield 21, 3) := by decide +kernel
theorem dX4_numberAt_39 : decode cX4_numberAt 39 = .ok (.lreturn, 1) := by decide +kernel
theorem dX4_squareSum_0 : decode cX4_squareSum 0 = .ok (.aload_n 0, 1) := by decide +kernel
theorem dX4_squareSum_1 : decode cX4_squareSum 1 = .ok (.getfield 9, 3) := by decide +kernel
theorem dX4_squareSum_4 : decode cX4_squareSum 4 = .ok (.aload_n 0, 1) := by decide +kernel
theorem dX4_squareSum_5 : decode cX4_squareSum 5 = .ok (.getfield 9, 3) := by decide +kernel
theorem dX4_squareSum_8 : decode cX4_squareSum 8 = .ok (.lmul, 1) := by decide +kernel
theorem dX4_squareSum_9 : decode cX4_squareSum 9 = .ok (.aload_n 0, 1) := by decide +kernel
theorem dX4_squareSum_10 : decode cX4_squareSum 10 = .ok (.getfield 15, 3) := by decide +kernel
theorem dX4_squareSum_13 : decode cX4_squareSum 13 = .ok (.aload_n 0, 1) := by decide +kernel
theorem dX4_squareSum_14 : decode cX4_squareSum 14 = .ok (.getfield 15, 3) := by decide +kernel
theorem dX4_squareSum_17 : decode cX4_squareSum 17 = .ok (.lmul, 1) := by decide +kernel
theorem dX4_squareSum_18 : decode cX4_squareSum 18 = .ok (.ladd, 1) := by decide +kernel
theorem dX4_squareSum_19 : decode cX4_squareSum 19 = .ok (.aload_n 0, 1) := by decide +kernel
theorem dX4_squareSum_20 : decode cX4_squareSum 20 = .ok (.getfield 18, 3) := by decide +kernel
theorem dX4_squareSum_23 : decode cX4_squareSum 23 = .ok (.aload_n 0, 1) := by decide +kernel
theorem dX4_squareSum_24 : decode cX4_squareSum 24 = .ok (.getfield 18, 3) := by decide +kernel
theorem dX4_squareSum_27 : decode cX4_squareSum 27 = .ok (.lmul, 1) := by decide +kernel
theorem dX4_squareSum_28 : decode cX4_squareSum 28 = .ok (.ladd, 1) := by decide +kernel
theorem dX4_squareSum_29 : decode cX4_squareSum 29 = .ok (.aload_n 0, 1) := by decide +kernel
theorem dX4_squareSum_30 : decode cX4_squareSum 30 = .ok (.getfield 21, 3) := by decide +kernel
theorem dX4_squareSum_33 : decode cX4_squareSum 33 = .ok (.aload_n 0, 1) := by decide +kernel
theorem dX4_squareSum_34 : decode cX4_squareSum 34 = .ok (.getfield 21, 3) := by decide +kernel
theorem dX4_squareSum_37 : decode cX4_squareSum 37 = .ok (.lmul, 1) := by decide +kernel
theorem dX4_squareSum_38 : decode cX4_squareSum 38 = .ok (.ladd, 1) := by decide +kernel
theorem dX4_squareSum_39 : decode cX4_squareSum 39 = .ok (.lreturn, 1) := by decide +kernel
theorem dX4_ownNorm_0 : decode cX4_ownNorm 0 = .ok (.aload_n 0, 1) := by decide +kernel
theorem dX4_ownNorm_1 : decode cX4_ownNorm 1 = .ok (.invokevirtual 32, 3) := by decide +kernel
theorem dX4_ownNorm_4 : decode cX4_ownNorm 4 = .ok (.ldc2_w 36, 3) := by decide +kernel
theorem dX4_ownNorm_7 : decode cX4_ownNorm 7 = .ok (.ldiv, 1) := by decide +kernel
theorem dX4_ownNorm_8 : decode cX4_ownNorm 8 = .ok (.lreturn, 1) := by decide +kernel
theorem dX4_isZero_0 : decode cX4_isZero 0 = .ok (.aload_n 0, 1) := by decide +kernel
theorem dX4_isZero_1 : decode cX4_isZero 1 = .ok (.getfield 9, 3) := by decide +kernel
theorem dX4_isZero_4 : decode cX4_isZero 4 = .ok (.lconst 0, 1) := by decide +kernel
theorem dX4_isZero_5 : decode cX4_isZero 5 = .ok (.lcmp, 1) := by decide +kernel
theorem dX4_isZero_6 : decode cX4_isZero 6 = .ok (.ifCond .ne 34, 3) := by decide +kernel
theorem dX4_isZero_9 : decode cX4_isZero 9 = .ok (.aload_n 0, 1) := by decide +kernel
theorem dX4_isZero_10 : decode cX4_isZero 10 = .ok (.getfield 15, 3) := by decide +kernel
theorem dX4_isZero_13 : decode cX4_isZero 13 = .ok (.lconst 0, 1) := by decide +kernel
theorem dX4_isZero_14 : decode cX4_isZero 14 = .ok (.lcmp, 1) := by decide +kernel
theorem dX4_isZero_15 : decode cX4_isZero 15 = .ok (.ifCond .ne 25, 3) := by decide +kernel
theorem dX4_isZero_18 : decode cX4_isZero 18 = .ok (.aload_n 0, 1) := by decide +kernel
theorem dX4_isZero_19 : decode cX4_isZero 19 = .ok (.getfield 18, 3) := by decide +kernel
theorem dX4_isZero_22 : decode cX4_isZero 22 = .ok (.lconst 0, 1) := by decide +kernel
theorem dX4_isZero_23 : decode cX4_isZero 23 = .ok (.lcmp, 1) := by decide +kernel
theorem dX4_isZero_24 : decode cX4_isZero 24 = .ok (.ifCond .ne 16, 3) := by decide +kernel
theorem dX4_isZero_27 : decode cX4_isZero 27 = .ok (.aload_n 0, 1) := by decide +kernel
theorem dX4_isZero_28 : decode cX4_isZero 28 = .ok (.getfield 21, 3) := by decide +kernel
theorem dX4_isZero_31 : decode cX4_isZero 31 = .ok (.lconst 0, 1) := by decide +kernel
theorem dX4_isZero_32 : decode cX4_isZero 32 = .ok (.lcmp, 1) := by decide +kernel
theorem dX4_isZero_33 : decode cX4_isZero 33 = .ok (.ifCond .ne 7, 3) := by decide +kernel
theorem dX4_isZero_36 : decode cX4_isZero 36 = .ok (.iconst 1, 1) := by decide +kernel
theorem dX4_isZero_37 : decode cX4_isZero 37 = .ok (.goto 4, 3) := by decide +kernel
theorem dX4_isZero_40 : decode cX4_isZero 40 = .ok (.iconst 0, 1) := by decide +kernel
theorem dX4_isZero_41 : decode cX4_isZero 41 = .ok (.ireturn, 1) := by decide +kernel
theorem dX4_isAllEven_0 : decode cX4_isAllEven 0 = .ok (.aload_n 0, 1) := by decide +kernel
theorem dX4_isAllEven_1 : decode cX4_isAllEven 1 = .ok (.getfield 9, 3) := by decide +kernel
theorem dX4_isAllEven_4 : decode cX4_isAllEven 4 = .ok (.aload_n 0, 1) := by decide +kernel
theorem dX4_isAllEven_5 : decode cX4_isAllEven 5 = .ok (.getfield 15, 3) := by decide +kernel
theorem dX4_isAllEven_8 : decode cX4_isAllEven 8 = .ok (.lor, 1) := by decide +kernel
theorem dX4_isAllEven_9 : decode cX4_isAllEven 9 = .ok (.aload_n 0, 1) := by decide +kernel
theorem dX4_isAllEven_10 : decode cX4_isAllEven 10 = .ok (.getfield 18, 3) := by decide +kernel
theorem dX4_isAllEven_13 : decode cX4_isAllEven 13 = .ok (.lor, 1) := by decide +kernel
theorem dX4_isAllEven_14 : decode cX4_isAllEven 14 = .ok (.aload_n 0, 1) := by decide +kernel
theorem dX4_isAllEven_15 : decode cX4_isAllEven 15 = .ok (.getfield 21, 3) := by decide +kernel
theorem dX4_isAllEven_18 : decode cX4_isAllEven 18 = .ok (.lor, 1) := by decide +kernel
theorem dX4_isAllEven_19 : decode cX4_isAllEven 19 = .ok (.lconst 1, 1) := by decide +kernel
theorem dX4_isAllEven_20 : decode cX4_isAllEven 20 = .ok (.land, 1) := by decide +kernel
theorem dX4_isAllEven_21 : decode cX4_isAllEven 21 = .ok (.lconst 0, 1) := by decide +kernel
theorem dX4_isAllEven_22 : decode cX4_isAllEven 22 = .ok (.lcmp, 1) := by decide +kernel
theorem dX4_isAllEven_23 : decode cX4_isAllEven 23 = .ok (.ifCond .ne 7, 3) := by decide +kernel
theorem dX4_isAllEven_26 : decode cX4_isAllEven 26 = .ok (.iconst 1, 1) := by decide +kernel
theorem dX4_isAllEven_27 : decode cX4_isAllEven 27 = .ok (.goto 4, 3) := by decide +kernel
theorem dX4_isAllEven_30 : decode cX4_isAllEven 30 = .ok (.iconst 0, 1) := by decide +kernel
theorem dX4_isAllEven_31 : decode cX4_isAllEven 31 = .ok (.ireturn, 1) := by decide +kernel
theorem dX4_isAllOdd_0 : decode cX4_isAllOdd 0 = .ok (.aload_n 0, 1) := by decide +kernel
theorem dX4_isAllOdd_1 : decode cX4_isAllOdd 1 = .ok (.getfield 9, 3) := by decide +kernel
theorem dX4_isAllOdd_4 : decode cX4_isAllOdd 4 = .ok (.aload_n 0, 1) := by decide +kernel
theorem dX4_isAllOdd_5 : decode cX4_isAllOdd 5 = .ok (.getfield 15, 3) := by decide +kernel
theorem dX4_isAllOdd_8 : decode cX4_isAllOdd 8 = .ok (.land, 1) := by decide +kernel
theorem dX4_isAllOdd_9 : decode cX4_isAllOdd 9 = .ok (.aload_n 0, 1) := by decide +kernel
theorem dX4_isAllOdd_10 : decode cX4_isAllOdd 10 = .ok (.getfield 18, 3) := by decide +kernel
theorem dX4_isAllOdd_13 : decode cX4_isAllOdd 13 = .ok (.land, 1) := by decide +kernel
theorem dX4_isAllOdd_14 : decode cX4_isAllOdd 14 = .ok (.aload_n 0, 1) := by decide +kernel
theorem dX4_isAllOdd_15 : decode cX4_isAllOdd 15 = .ok (.getfield 21, 3) := by decide +kernel
theorem dX4_isAllOdd_18 : decode cX4_isAllOdd 18 = .ok (.land, 1) := by decide +kernel
theorem dX4_isAllOdd_19 : decode cX4_isAllOdd 19 = .ok (.lconst 1, 1) := by decide +kernel
theorem dX4_isAllOdd_20 : decode cX4_isAllOdd 20 = .ok (.land, 1) := by decide +kernel
theorem dX4_isAllOdd_21 : decode cX4_isAllOdd 21 = .ok (.lconst 1, 1) := by decide +kernel
theorem dX4_isAllOdd_22 : decode cX4_isAllOdd 22 = .ok (.lcmp, 1) := by decide +kernel
theorem dX4_isAllOdd_23 : decode cX4_isAllOdd 23 = .ok (.ifCond .ne 7, 3) := by decide +kernel
theorem dX4_isAllOdd_26 : decode cX4_isAllOdd 26 = .ok (.iconst 1, 1) := by decide +kernel
theorem dX4_isAllOdd_27 : decode cX4_isAllOdd 27 = .ok (.goto 4, 3) := by decide +kernel
theorem dX4_isAllOdd_30 : decode cX4_isAllOdd 30 = .ok (.iconst 0, 1) := by decide +kernel
theorem dX4_isAllOdd_31 : decode cX4_isAllOdd 31 = .ok (.ireturn, 1) := by decide +kernel
theorem dX4_isTooGreat_0 : decode cX4_isTooGreat 0 = .ok (.aload_n 0, 1) := by decide +kernel
theorem dX4_isTooGreat_1 : decode cX4_isTooGreat 1 = .ok (.getfield 9, 3) := by decide +kernel
theorem dX4_isTooGreat_4 : decode cX4_isTooGreat 4 = .ok (.invokestatic 38, 3) := by decide +kernel
theorem dX4_isTooGreat_7 : decode cX4_isTooGreat 7 = .ok (.ifCond .ne 33, 3) := by decide +kernel
theorem dX4_isTooGreat_10 : decode cX4_isTooGreat 10 = .ok (.aload_n 0, 1) := by decide +kernel
theorem dX4_isTooGreat_11 : decode cX4_isTooGreat 11 = .ok (.getfield 15, 3) := by decide +kernel
theorem dX4_isTooGreat_14 : decode cX4_isTooGreat 14 = .ok (.invokestatic 38, 3) := by decide +kernel
theorem dX4_isTooGreat_17 : decode cX4_isTooGreat 17 = .ok (.ifCond .ne 23, 3) := by decide +kernel
theorem dX4_isTooGreat_20 : decode cX4_isTooGreat 20 = .ok (.aload_n 0, 1) := by decide +kernel
theorem dX4_isTooGreat_21 : decode cX4_isTooGreat 21 = .ok (.getfield 18, 3) := by decide +kernel
theorem dX4_isTooGreat_24 : decode cX4_isTooGreat 24 = .ok (.invokestatic 38, 3) := by decide +kernel
theorem dX4_isTooGreat_27 : decode cX4_isTooGreat 27 = .ok (.ifCond .ne 13, 3) := by decide +kernel
theorem dX4_isTooGreat_30 : decode cX4_isTooGreat 30 = .ok (.aload_n 0, 1) := by decide +kernel
theorem dX4_isTooGreat_31 : decode cX4_isTooGreat 31 = .ok (.getfield 21, 3) := by decide +kernel
theorem dX4_isTooGreat_34 : decode cX4_isTooGreat 34 = .ok (.invokestatic 38, 3) := by decide +kernel
theorem dX4_isTooGreat_37 : decode cX4_isTooGreat 37 = .ok (.ifCond .eq 5, 3) := by decide +kernel
theorem dX4_isTooGreat_40 : decode cX4_isTooGreat 40 = .ok (.iconst 1, 1) := by decide +kernel
theorem dX4_isTooGreat_41 : decode cX4_isTooGreat 41 = .ok (.ireturn, 1) := by decide +kernel
theorem dX4_isTooGreat_42 : decode cX4_isTooGreat 42 = .ok (.aload_n 0, 1) := by decide +kernel
theorem dX4_isTooGreat_43 : decode cX4_isTooGreat 43 = .ok (.invokevirtual 42, 3) := by decide +kernel
theorem dX4_isTooGreat_46 : decode cX4_isTooGreat 46 = .ok (.ldc2_w 45, 3) := by decide +kernel
theorem dX4_isTooGreat_49 : decode cX4_isTooGreat 49 = .ok (.lcmp, 1) := by decide +kernel
theorem dX4_isTooGreat_50 : decode cX4_isTooGreat 50 = .ok (.ifCond .le 7, 3) := by decide +kernel
theorem dX4_isTooGreat_53 : decode cX4_isTooGreat 53 = .ok (.iconst 1, 1) := by decide +kernel
theorem dX4_isTooGreat_54 : decode cX4_isTooGreat 54 = .ok (.goto 4, 3) := by decide +kernel
theorem dX4_isTooGreat_57 : decode cX4_isTooGreat 57 = .ok (.iconst 0, 1) := by decide +kernel
theorem dX4_isTooGreat_58 : decode cX4_isTooGreat 58 = .ok (.ireturn, 1) := by decide +kernel
theorem dX4_isFar_0 : decode cX4_isFar 0 = .ok (.lload_n 0, 1) := by decide +kernel
theorem dX4_isFar_1 : decode cX4_isFar 1 = .ok (.ldc2_w 47, 3) := by decide +kernel
theorem dX4_isFar_4 : decode cX4_isFar 4 = .ok (.lcmp, 1) := by decide +kernel
theorem dX4_isFar_5 : decode cX4_isFar 5 = .ok (.ifCond .lt 11, 3) := by decide +kernel
theorem dX4_isFar_8 : decode cX4_isFar 8 = .ok (.lload_n 0, 1) := by decide +kernel
theorem dX4_isFar_9 : decode cX4_isFar 9 = .ok (.ldc2_w 49, 3) := by decide +kernel
theorem dX4_isFar_12 : decode cX4_isFar 12 = .ok (.lcmp, 1) := by decide +kernel
theorem dX4_isFar_13 : decode cX4_isFar 13 = .ok (.ifCond .le 7, 3) := by decide +kernel
theorem dX4_isFar_16 : decode cX4_isFar 16 = .ok (.iconst 1, 1) := by decide +kernel
theorem dX4_isFar_17 : decode cX4_isFar 17 = .ok (.goto 4, 3) := by decide +kernel
theorem dX4_isFar_20 : decode cX4_isFar 20 = .ok (.iconst 0, 1) := by decide +kernel
theorem dX4_isFar_21 : decode cX4_isFar 21 = .ok (.ireturn, 1) := by decide +kernel
theorem dX4_isLessThan_0 : decode cX4_isLessThan 0 = .ok (.aload_n 0, 1) := by decide +kernel
theorem dX4_isLessThan_1 : decode cX4_isLessThan 1 = .ok (.getfield 9, 3) := by decide +kernel
theorem dX4_isLessThan_4 : decode cX4_isLessThan 4 = .ok (.aload_n 1, 1) := by decide +kernel
theorem dX4_isLessThan_5 : decode cX4_isLessThan 5 = .ok (.getfield 9, 3) := by decide +kernel
theorem dX4_isLessThan_8 : decode cX4_isLessThan 8 = .ok (.lcmp, 1) := by decide +kernel
theorem dX4_isLessThan_9 : decode cX4_isLessThan 9 = .ok (.ifCond .eq 21, 3) := by decide +kernel
theorem dX4_isLessThan_12 : decode cX4_isLessThan 12 = .ok (.aload_n 0, 1) := by decide +kernel
theorem dX4_isLessThan_13 : decode cX4_isLessThan 13 = .ok (.getfield 9, 3) := by decide +kernel
theorem dX4_isLessThan_16 : decode cX4_isLessThan 16 = .ok (.aload_n 1, 1) := by decide +kernel
theorem dX4_isLessThan_17 : decode cX4_isLessThan 17 = .ok (.getfield 9, 3) := by decide +kernel
theorem dX4_isLessThan_20 : decode cX4_isLessThan 20 = .ok (.lcmp, 1) := by decide +kernel
theorem dX4_isLessThan_21 : decode cX4_isLessThan 21 = .ok (.ifCond .ge 7, 3) := by decide +kernel
theorem dX4_isLessThan_24 : decode cX4_isLessThan 24 = .ok (.iconst 1, 1) := by decide +kernel
theorem dX4_isLessThan_25 : decode cX4_isLessThan 25 = .ok (.goto 4, 3) := by decide +kernel
theorem dX4_isLessThan_28 : decode cX4_isLessThan 28 = .ok (.iconst 0, 1) := by decide +kernel
theorem dX4_isLessThan_29 : decode cX4_isLessThan 29 = .ok (.ireturn, 1) := by decide +kernel
theorem dX4_isLessThan_30 : decode cX4_isLessThan 30 = .ok (.aload_n 0, 1) := by decide +kernel
theorem dX4_isLessThan_31 : decode cX4_isLessThan 31 = .ok (.getfield 15, 3) := by decide +kernel
theorem dX4_isLessThan_34 : decode cX4_isLessThan 34 = .ok (.aload_n 1, 1) := by decide +kernel
theorem dX4_isLessThan_35 : decode cX4_isLessThan 35 = .ok (.getfield 15, 3) := by decide +kernel
theorem dX4_isLessThan_38 : decode cX4_isLessThan 38 = .ok (.lcmp, 1) := by decide +kernel
theorem dX4_isLessThan_39 : decode cX4_isLessThan 39 = .ok (.ifCond .eq 21, 3) := by decide +kernel
theorem dX4_isLessThan_42 : decode cX4_isLessThan 42 = .ok (.aload_n 0, 1) := by decide +kernel
theorem dX4_isLessThan_43 : decode cX4_isLessThan 43 = .ok (.getfield 15, 3) := by decide +kernel
theorem dX4_isLessThan_46 : decode cX4_isLessThan 46 = .ok (.aload_n 1, 1) := by decide +kernel
theorem dX4_isLessThan_47 : decode cX4_isLessThan 47 = .ok (.getfield 15, 3) := by decide +kernel
theorem dX4_isLessThan_50 : decode cX4_isLessThan 50 = .ok (.lcmp, 1) := by decide +kernel
theorem dX4_isLessThan_51 : decode cX4_isLessThan 51 = .ok (.ifCond .ge 7, 3) := by decide +kernel
theorem dX4_isLessThan_54 : decode cX4_isLessThan 54 = .ok (.iconst 1, 1) := by decide +kernel
theorem dX4_isLessThan_55 : decode cX4_isLessThan 55 = .ok (.goto 4, 3) := by decide +kernel
theorem dX4_isLessThan_58 : decode cX4_isLessThan 58 = .ok (.iconst 0, 1) := by decide +kernel
theorem dX4_isLessThan_59 : decode cX4_isLessThan 59 = .ok (.ireturn, 1) := by decide +kernel
theorem dX4_isLessThan_60 : decode cX4_isLessThan 60 = .ok (.aload_n 0, 1) := by decide +kernel
theorem dX4_isLessThan_61 : decode cX4_isLessThan 61 = .ok (.getfield 18, 3) := by decide +kernel
theorem dX4_isLessThan_64 : decode cX4_isLessThan 64 = .ok (.aload_n 1, 1) := by decide +kernel
theorem dX4_isLessThan_65 : decode cX4_isLessThan 65 = .ok (.getfield 18, 3) := by decide +kernel
theorem dX4_isLessThan_68 : decode cX4_isLessThan 68 = .ok (.lcmp, 1) := by decide +kernel
theorem dX4_isLessThan_69 : decode cX4_isLessThan 69 = .ok (.ifCond .eq 21, 3) := by decide +kernel
theorem dX4_isLessThan_72 : decode cX4_isLessThan 72 = .ok (.aload_n 0, 1) := by decide +kernel
theorem dX4_isLessThan_73 : decode cX4_isLessThan 73 = .ok (.getfield 18, 3) := by decide +kernel
theorem dX4_isLessThan_76 : decode cX4_isLessThan 76 = .ok (.aload_n 1, 1) := by decide +kernel
theorem dX4_isLessThan_77 : decode cX4_isLessThan 77 = .ok (.getfield 18, 3) := by decide +kernel
theorem dX4_isLessThan_80 : decode cX4_isLessThan 80 = .ok (.lcmp, 1) := by decide +kernel
theorem dX4_isLessThan_81 : decode cX4_isLessThan 81 = .ok (.ifCond .ge 7, 3) := by decide +kernel
theorem dX4_isLessThan_84 : decode cX4_isLessThan 84 = .ok (.iconst 1, 1) := by decide +kernel
theorem dX4_isLessThan_85 : decode cX4_isLessThan 85 = .ok (.goto 4, 3) := by decide +kernel
theorem dX4_isLessThan_88 : decode cX4_isLessThan 88 = .ok (.iconst 0, 1) := by decide +kernel
theorem dX4_isLessThan_89 : decode cX4_isLessThan 89 = .ok (.ireturn, 1) := by decide +kernel
theorem dX4_isLessThan_90 : decode cX4_isLessThan 90 = .ok (.aload_n 0, 1) := by decide +kernel
theorem dX4_isLessThan_91 : decode cX4_isLessThan 91 = .ok (.getfield 21, 3) := by decide +kernel
theorem dX4_isLessThan_94 : decode cX4_isLessThan 94 = .ok (.aload_n 1, 1) := by decide +kernel
theorem dX4_isLessThan_95 : decode cX4_isLessThan 95 = .ok (.getfield 21, 3) := by decide +kernel
theorem dX4_isLessThan_98 : decode cX4_isLessThan 98 = .ok (.lcmp, 1) := by decide +kernel
theorem dX4_isLessThan_99 : decode cX4_isLessThan 99 = .ok (.ifCond .ge 7, 3) := by decide +kernel
theorem dX4_isLessThan_102 : decode cX4_isLessThan 102 = .ok (.iconst 1, 1) := by decide +kernel
theorem dX4_isLessThan_103 : decode cX4_isLessThan 103 = .ok (.goto 4, 3) := by decide +kernel
theorem dX4_isLessThan_106 : decode cX4_isLessThan 106 = .ok (.iconst 0, 1) := by decide +kernel
theorem dX4_isLessThan_107 : decode cX4_isLessThan 107 = .ok (.ireturn, 1) := by decide +kernel
theorem dX4_isMultipleOf_0 : decode cX4_isMultipleOf 0 = .ok (.aload_n 0, 1) := by decide +kernel
theorem dX4_isMultipleOf_1 : decode cX4_isMultipleOf 1 = .ok (.getfield 9, 3) := by decide +kernel
theorem dX4_isMultipleOf_4 : decode cX4_isMultipleOf 4 = .ok (.aload_n 1, 1) := by decide +kernel
theorem dX4_isMultipleOf_5 : decode cX4_isMultipleOf 5 = .ok (.getfield 15, 3) := by decide +kernel
theorem dX4_isMultipleOf_8 : decode cX4_isMultipleOf 8 = .ok (.lmul, 1) := by decide +kernel
theorem dX4_isMultipleOf_9 : decode cX4_isMultipleOf 9 = .ok (.aload_n 0, 1) := by decide +kernel
theorem dX4_isMultipleOf_10 : decode cX4_isMultipleOf 10 = .ok (.getfield 15, 3) := by decide +kernel
theorem dX4_isMultipleOf_13 : decode cX4_isMultipleOf 13 = .ok (.aload_n 1, 1) := by decide +kernel
theorem dX4_isMultipleOf_14 : decode cX4_isMultipleOf 14 = .ok (.getfield 9, 3) := by decide +kernel
theorem dX4_isMultipleOf_17 : decode cX4_isMultipleOf 17 = .ok (.lmul, 1) := by decide +kernel
theorem dX4_isMultipleOf_18 : decode cX4_isMultipleOf 18 = .ok (.lcmp, 1) := by decide +kernel
theorem dX4_isMultipleOf_19 : decode cX4_isMultipleOf 19 = .ok (.ifCond .ne 117, 3) := by decide +kernel
theorem dX4_isMultipleOf_22 : decode cX4_isMultipleOf 22 = .ok (.aload_n 0, 1) := by decide +kernel
theorem dX4_isMultipleOf_23 : decode cX4_isMultipleOf 23 = .ok (.getfield 9, 3) := by decide +kernel
theorem dX4_isMultipleOf_26 : decode cX4_isMultipleOf 26 = .ok (.aload_n 1, 1) := by decide +kernel
theorem dX4_isMultipleOf_27 : decode cX4_isMultipleOf 27 = .ok (.getfield 18, 3) := by decide +kernel
theorem dX4_isMultipleOf_30 : decode cX4_isMultipleOf 30 = .ok (.lmul, 1) := by decide +kernel
theorem dX4_isMultipleOf_31 : decode cX4_isMultipleOf 31 = .ok (.aload_n 0, 1) := by decide +kernel
theorem dX4_isMultipleOf_32 : decode cX4_isMultipleOf 32 = .ok (.getfield 18, 3) := by decide +kernel
theorem dX4_isMultipleOf_35 : decode cX4_isMultipleOf 35 = .ok (.aload_n 1, 1) := by decide +kernel
theorem dX4_isMultipleOf_36 : decode cX4_isMultipleOf 36 = .ok (.getfield 9, 3) := by decide +kernel
theorem dX4_isMultipleOf_39 : decode cX4_isMultipleOf 39 = .ok (.lmul, 1) := by decide +kernel
theorem dX4_isMultipleOf_40 : decode cX4_isMultipleOf 40 = .ok (.lcmp, 1) := by decide +kernel
theorem dX4_isMultipleOf_41 : decode cX4_isMultipleOf 41 = .ok (.ifCond .ne 95, 3) := by decide +kernel
theorem dX4_isMultipleOf_44 : decode cX4_isMultipleOf 44 = .ok (.aload_n 0, 1) := by decide +kernel
theorem dX4_isMultipleOf_45 : decode cX4_isMultipleOf 45 = .ok (.getfield 9, 3) := by decide +kernel
theorem dX4_isMultipleOf_48 : decode cX4_isMultipleOf 48 = .ok (.aload_n 1, 1) := by decide +kernel
theorem dX4_isMultipleOf_49 : decode cX4_isMultipleOf 49 = .ok (.getfield 21, 3) := by decide +kernel
theorem dX4_isMultipleOf_52 : decode cX4_isMultipleOf 52 = .ok (.lmul, 1) := by decide +kernel
theorem dX4_isMultipleOf_53 : decode cX4_isMultipleOf 53 = .ok (.aload_n 0, 1) := by decide +kernel
theorem dX4_isMultipleOf_54 : decode cX4_isMultipleOf 54 = .ok (.getfield 21, 3) := by decide +kernel
theorem dX4_isMultipleOf_57 : decode cX4_isMultipleOf 57 = .ok (.aload_n 1, 1) := by decide +kernel
theorem dX4_isMultipleOf_58 : decode cX4_isMultipleOf 58 = .ok (.getfield 9, 3) := by decide +kernel
theorem dX4_isMultipleOf_61 : decode cX4_isMultipleOf 61 = .ok (.lmul, 1) := by decide +kernel
theorem dX4_isMultipleOf_62 : decode cX4_isMultipleOf 62 = .ok (.lcmp, 1) := by decide +kernel
theorem dX4_isMultipleOf_63 : decode cX4_isMultipleOf 63 = .ok (.ifCond .ne 73, 3) := by decide +kernel
theorem dX4_isMultipleOf_66 : decode cX4_isMultipleOf 66 = .ok (.aload_n 0, 1) := by decide +kernel
theorem dX4_isMultipleOf_67 : decode cX4_isMultipleOf 67 = .ok (.getfield 15, 3) := by decide +kernel
theorem dX4_isMultipleOf_70 : decode cX4_isMultipleOf 70 = .ok (.aload_n 1, 1) := by decide +kernel
theorem dX4_isMultipleOf_71 : decode cX4_isMultipleOf 71 = .ok (.getfield 18, 3) := by decide +kernel
theorem dX4_isMultipleOf_74 : decode cX4_isMultipleOf 74 = .ok (.lmul, 1) := by decide +kernel
theorem dX4_isMultipleOf_75 : decode cX4_isMultipleOf 75 = .ok (.aload_n 0, 1) := by decide +kernel
theorem dX4_isMultipleOf_76 : decode cX4_isMultipleOf 76 = .ok (.getfield 18, 3) := by decide +kernel
theorem dX4_isMultipleOf_79 : decode cX4_isMultipleOf 79 = .ok (.aload_n 1, 1) := by decide +kernel
theorem dX4_isMultipleOf_80 : decode cX4_isMultipleOf 80 = .ok (.getfield 15, 3) := by decide +kernel
theorem dX4_isMultipleOf_83 : decode cX4_isMultipleOf 83 = .ok (.lmul, 1) := by decide +kernel
theorem dX4_isMultipleOf_84 : decode cX4_isMultipleOf 84 = .ok (.lcmp, 1) := by decide +kernel
theorem dX4_isMultipleOf_85 : decode cX4_isMultipleOf 85 = .ok (.ifCond .ne 51, 3) := by decide +kernel
theorem dX4_isMultipleOf_88 : decode cX4_isMultipleOf 88 = .ok (.aload_n 0, 1) := by decide +kernel
theorem dX4_isMultipleOf_89 : decode cX4_isMultipleOf 89 = .ok (.getfield 15, 3) := by decide +kernel
theorem dX4_isMultipleOf_92 : decode cX4_isMultipleOf 92 = .ok (.aload_n 1, 1) := by decide +kernel
theorem dX4_isMultipleOf_93 : decode cX4_isMultipleOf 93 = .ok (.getfield 21, 3) := by decide +kernel
theorem dX4_isMultipleOf_96 : decode cX4_isMultipleOf 96 = .ok (.lmul, 1) := by decide +kernel
theorem dX4_isMultipleOf_97 : decode cX4_isMultipleOf 97 = .ok (.aload_n 0, 1) := by decide +kernel
theorem dX4_isMultipleOf_98 : decode cX4_isMultipleOf 98 = .ok (.getfield 21, 3) := by decide +kernel
theorem dX4_isMultipleOf_101 : decode cX4_isMultipleOf 101 = .ok (.aload_n 1, 1) := by decide +kernel
theorem dX4_isMultipleOf_102 : decode cX4_isMultipleOf 102 = .ok (.getfield 15, 3) := by decide +kernel
theorem dX4_isMultipleOf_105 : decode cX4_isMultipleOf 105 = .ok (.lmul, 1) := by decide +kernel
theorem dX4_isMultipleOf_106 : decode cX4_isMultipleOf 106 = .ok (.lcmp, 1) := by decide +kernel
theorem dX4_isMultipleOf_107 : decode cX4_isMultipleOf 107 = .ok (.ifCond .ne 29, 3) := by decide +kernel
theorem dX4_isMultipleOf_110 : decode cX4_isMultipleOf 110 = .ok (.aload_n 0, 1) := by decide +kernel
theorem dX4_isMultipleOf_111 : decode cX4_isMultipleOf 111 = .ok (.getfield 18, 3) := by decide +kernel
theorem dX4_isMultipleOf_114 : decode cX4_isMultipleOf 114 = .ok (.aload_n 1, 1) := by decide +kernel
theorem dX4_isMultipleOf_115 : decode cX4_isMultipleOf 115 = .ok (.getfield 21, 3) := by decide +kernel
theorem dX4_isMultipleOf_118 : decode cX4_isMultipleOf 118 = .ok (.lmul, 1) := by decide +kernel
theorem dX4_isMultipleOf_119 : decode cX4_isMultipleOf 119 = .ok (.aload_n 0, 1) := by decide +kernel
theorem dX4_isMultipleOf_120 : decode cX4_isMultipleOf 120 = .ok (.getfield 21, 3) := by decide +kernel
theorem dX4_isMultipleOf_123 : decode cX4_isMultipleOf 123 = .ok (.aload_n 1, 1) := by decide +kernel
theorem dX4_isMultipleOf_124 : decode cX4_isMultipleOf 124 = .ok (.getfield 18, 3) := by decide +kernel
theorem dX4_isMultipleOf_127 : decode cX4_isMultipleOf 127 = .ok (.lmul, 1) := by decide +kernel
theorem dX4_isMultipleOf_128 : decode cX4_isMultipleOf 128 = .ok (.lcmp, 1) := by decide +kernel
theorem dX4_isMultipleOf_129 : decode cX4_isMultipleOf 129 = .ok (.ifCond .ne 7, 3) := by decide +kernel
theorem dX4_isMultipleOf_132 : decode cX4_isMultipleOf 132 = .ok (.iconst 1, 1) := by decide +kernel
theorem dX4_isMultipleOf_133 : decode cX4_isMultipleOf 133 = .ok (.goto 4, 3) := by decide +kernel
theorem dX4_isMultipleOf_136 : decode cX4_isMultipleOf 136 = .ok (.iconst 0, 1) := by decide +kernel
theorem dX4_isMultipleOf_137 : decode cX4_isMultipleOf 137 = .ok (.ireturn, 1) := by decide +kernel
theorem dX4_numbersDivisor_0 : decode cX4_numbersDivisor 0 = .ok (.aload_n 0, 1) := by decide +kernel
theorem dX4_numbersDivisor_1 : decode cX4_numbersDivisor 1 = .ok (.getfield 9, 3) := by decide +kernel
theorem dX4_numbersDivisor_4 : decode cX4_numbersDivisor 4 = .ok (.aload_n 0, 1) := by decide +kernel
theorem dX4_numbersDivisor_5 : decode cX4_numbersDivisor 5 = .ok (.getfield 15, 3) := by decide +kernel
theorem dX4_numbersDivisor_8 : decode cX4_numbersDivisor 8 = .ok (.invokestatic 51, 3) := by decide +kernel
theorem dX4_numbersDivisor_11 : decode cX4_numbersDivisor 11 = .ok (.aload_n 0, 1) := by decide +kernel
theorem dX4_numbersDivisor_12 : decode cX4_numbersDivisor 12 = .ok (.getfield 18, 3) := by decide +kernel
theorem dX4_numbersDivisor_15 : decode cX4_numbersDivisor 15 = .ok (.aload_n 0, 1) := by decide +kernel
theorem dX4_numbersDivisor_16 : decode cX4_numbersDivisor 16 = .ok (.getfield 21, 3) := by decide +kernel
theorem dX4_numbersDivisor_19 : decode cX4_numbersDivisor 19 = .ok (.invokestatic 51, 3) := by decide +kernel
theorem dX4_numbersDivisor_22 : decode cX4_numbersDivisor 22 = .ok (.invokestatic 51, 3) := by decide +kernel
theorem dX4_numbersDivisor_25 : decode cX4_numbersDivisor 25 = .ok (.lreturn, 1) := by decide +kernel
theorem dX4_wholeDivisor_0 : decode cX4_wholeDivisor 0 = .ok (.aload_n 0, 1) := by decide +kernel
theorem dX4_wholeDivisor_1 : decode cX4_wholeDivisor 1 = .ok (.invokevirtual 55, 3) := by decide +kernel
theorem dX4_wholeDivisor_4 : decode cX4_wholeDivisor 4 = .ok (.lstore_n 1, 1) := by decide +kernel
theorem dX4_wholeDivisor_5 : decode cX4_wholeDivisor 5 = .ok (.lload_n 1, 1) := by decide +kernel
theorem dX4_wholeDivisor_6 : decode cX4_wholeDivisor 6 = .ok (.lconst 0, 1) := by decide +kernel
theorem dX4_wholeDivisor_7 : decode cX4_wholeDivisor 7 = .ok (.lcmp, 1) := by decide +kernel
theorem dX4_wholeDivisor_8 : decode cX4_wholeDivisor 8 = .ok (.ifCond .ne 5, 3) := by decide +kernel
theorem dX4_wholeDivisor_11 : decode cX4_wholeDivisor 11 = .ok (.lconst 0, 1) := by decide +kernel
theorem dX4_wholeDivisor_12 : decode cX4_wholeDivisor 12 = .ok (.lreturn, 1) := by decide +kernel
theorem dX4_wholeDivisor_13 : decode cX4_wholeDivisor 13 = .ok (.aload_n 0, 1) := by decide +kernel
theorem dX4_wholeDivisor_14 : decode cX4_wholeDivisor 14 = .ok (.getfield 9, 3) := by decide +kernel
theorem dX4_wholeDivisor_17 : decode cX4_wholeDivisor 17 = .ok (.lload_n 1, 1) := by decide +kernel
theorem dX4_wholeDivisor_18 : decode cX4_wholeDivisor 18 = .ok (.ldiv, 1) := by decide +kernel
theorem dX4_wholeDivisor_19 : decode cX4_wholeDivisor 19 = .ok (.aload_n 0, 1) := by decide +kernel
theorem dX4_wholeDivisor_20 : decode cX4_wholeDivisor 20 = .ok (.getfield 15, 3) := by decide +kernel
theorem dX4_wholeDivisor_23 : decode cX4_wholeDivisor 23 = .ok (.lload_n 1, 1) := by decide +kernel
theorem dX4_wholeDivisor_24 : decode cX4_wholeDivisor 24 = .ok (.ldiv, 1) := by decide +kernel
theorem dX4_wholeDivisor_25 : decode cX4_wholeDivisor 25 = .ok (.land, 1) := by decide +kernel
theorem dX4_wholeDivisor_26 : decode cX4_wholeDivisor 26 = .ok (.aload_n 0, 1) := by decide +kernel
theorem dX4_wholeDivisor_27 : decode cX4_wholeDivisor 27 = .ok (.getfield 18, 3) := by decide +kernel
theorem dX4_wholeDivisor_30 : decode cX4_wholeDivisor 30 = .ok (.lload_n 1, 1) := by decide +kernel
theorem dX4_wholeDivisor_31 : decode cX4_wholeDivisor 31 = .ok (.ldiv, 1) := by decide +kernel
theorem dX4_wholeDivisor_32 : decode cX4_wholeDivisor 32 = .ok (.land, 1) := by decide +kernel
theorem dX4_wholeDivisor_33 : decode cX4_wholeDivisor 33 = .ok (.aload_n 0, 1) := by decide +kernel
theorem dX4_wholeDivisor_34 : decode cX4_wholeDivisor 34 = .ok (.getfield 21, 3) := by decide +kernel
theorem dX4_wholeDivisor_37 : decode cX4_wholeDivisor 37 = .ok (.lload_n 1, 1) := by decide +kernel
theorem dX4_wholeDivisor_38 : decode cX4_wholeDivisor 38 = .ok (.ldiv, 1) := by decide +kernel
theorem dX4_wholeDivisor_39 : decode cX4_wholeDivisor 39 = .ok (.land, 1) := by decide +kernel
theorem dX4_wholeDivisor_40 : decode cX4_wholeDivisor 40 = .ok (.lconst 1, 1) := by decide +kernel
theorem dX4_wholeDivisor_41 : decode cX4_wholeDivisor 41 = .ok (.land, 1) := by decide +kernel
theorem dX4_wholeDivisor_42 : decode cX4_wholeDivisor 42 = .ok (.lconst 1, 1) := by decide +kernel
theorem dX4_wholeDivisor_43 : decode cX4_wholeDivisor 43 = .ok (.lcmp, 1) := by decide +kernel
theorem dX4_wholeDivisor_44 : decode cX4_wholeDivisor 44 = .ok (.ifCond .ne 7, 3) := by decide +kernel
theorem dX4_wholeDivisor_47 : decode cX4_wholeDivisor 47 = .ok (.iconst 1, 1) := by decide +kernel
theorem dX4_wholeDivisor_48 : decode cX4_wholeDivisor 48 = .ok (.goto 4, 3) := by decide +kernel
theorem dX4_wholeDivisor_51 : decode cX4_wholeDivisor 51 = .ok (.iconst 0, 1) := by decide +kernel
theorem dX4_wholeDivisor_52 : decode cX4_wholeDivisor 52 = .ok (.istore_n 3, 1) := by decide +kernel
theorem dX4_wholeDivisor_53 : decode cX4_wholeDivisor 53 = .ok (.iload_n 3, 1) := by decide +kernel
theorem dX4_wholeDivisor_54 : decode cX4_wholeDivisor 54 = .ok (.ifCond .eq 7, 3) := by decide +kernel
theorem dX4_wholeDivisor_57 : decode cX4_wholeDivisor 57 = .ok (.lload_n 1, 1) := by decide +kernel
theorem dX4_wholeDivisor_58 : decode cX4_wholeDivisor 58 = .ok (.goto 8, 3) := by decide +kernel
theorem dX4_wholeDivisor_61 : decode cX4_wholeDivisor 61 = .ok (.lload_n 1, 1) := by decide +kernel
theorem dX4_wholeDivisor_62 : decode cX4_wholeDivisor 62 = .ok (.ldc2_w 28, 3) := by decide +kernel
theorem dX4_wholeDivisor_65 : decode cX4_wholeDivisor 65 = .ok (.ldiv, 1) := by decide +kernel
theorem dX4_wholeDivisor_66 : decode cX4_wholeDivisor 66 = .ok (.lreturn, 1) := by decide +kernel
theorem dX4_ownIndex_0 : decode cX4_ownIndex 0 = .ok (.aload_n 0, 1) := by decide +kernel
theorem dX4_ownIndex_1 : decode cX4_ownIndex 1 = .ok (.invokevirtual 58, 3) := by decide +kernel
theorem dX4_ownIndex_4 : decode cX4_ownIndex 4 = .ok (.lstore_n 1, 1) := by decide +kernel
theorem dX4_ownIndex_5 : decode cX4_ownIndex 5 = .ok (.lload_n 1, 1) := by decide +kernel
theorem dX4_ownIndex_6 : decode cX4_ownIndex 6 = .ok (.lconst 0, 1) := by decide +kernel
theorem dX4_ownIndex_7 : decode cX4_ownIndex 7 = .ok (.lcmp, 1) := by decide +kernel
theorem dX4_ownIndex_8 : decode cX4_ownIndex 8 = .ok (.ifCond .ne 5, 3) := by decide +kernel
theorem dX4_ownIndex_11 : decode cX4_ownIndex 11 = .ok (.lconst 0, 1) := by decide +kernel
theorem dX4_ownIndex_12 : decode cX4_ownIndex 12 = .ok (.lreturn, 1) := by decide +kernel
theorem dX4_ownIndex_13 : decode cX4_ownIndex 13 = .ok (.aload_n 0, 1) := by decide +kernel
theorem dX4_ownIndex_14 : decode cX4_ownIndex 14 = .ok (.invokevirtual 42, 3) := by decide +kernel
theorem dX4_ownIndex_17 : decode cX4_ownIndex 17 = .ok (.lload_n 1, 1) := by decide +kernel
theorem dX4_ownIndex_18 : decode cX4_ownIndex 18 = .ok (.ldiv, 1) := by decide +kernel
theorem dX4_ownIndex_19 : decode cX4_ownIndex 19 = .ok (.lload_n 1, 1) := by decide +kernel
theorem dX4_ownIndex_20 : decode cX4_ownIndex 20 = .ok (.ldiv, 1) := by decide +kernel
theorem dX4_ownIndex_21 : decode cX4_ownIndex 21 = .ok (.iconst 2, 1) := by decide +kernel
theorem dX4_ownIndex_22 : decode cX4_ownIndex 22 = .ok (.invokestatic 61, 3) := by decide +kernel
theorem dX4_ownIndex_25 : decode cX4_ownIndex 25 = .ok (.lreturn, 1) := by decide +kernel
theorem dX5_init_0 : decode cX5_init 0 = .ok (.aload_n 0, 1) := by decide +kernel
theorem dX5_init_1 : decode cX5_init 1 = .ok (.invokespecial 3, 3) := by decide +kernel
theorem dX5_init_4 : decode cX5_init 4 = .ok (.aload_n 0, 1) := by decide +kernel
theorem dX5_init_5 : decode cX5_init 5 = .ok (.new 9, 3) := by decide +kernel
theorem dX5_init_8 : decode cX5_init 8 = .ok (.dup, 1) := by decide +kernel
theorem dX5_init_9 : decode cX5_init 9 = .ok (.invokespecial 11, 3) := by decide +kernel
theorem dX5_init_12 : decode cX5_init 12 = .ok (.putfield 12, 3) := by decide +kernel
theorem dX5_init_15 : decode cX5_init 15 = .ok (.aload_n 0, 1) := by decide +kernel
theorem dX5_init_16 : decode cX5_init 16 = .ok (.new 9, 3) := by decide +kernel
theorem dX5_init_19 : decode cX5_init 19 = .ok (.dup, 1) := by decide +kernel
theorem dX5_init_20 : decode cX5_init 20 = .ok (.invokespecial 11, 3) := by decide +kernel
theorem dX5_init_23 : decode cX5_init 23 = .ok (.putfield 18, 3) := by decide +kernel
theorem dX5_init_26 : decode cX5_init 26 = .ok (.aload_n 0, 1) := by decide +kernel
theorem dX5_init_27 : decode cX5_init 27 = .ok (.new 9, 3) := by decide +kernel
theorem dX5_init_30 : decode cX5_init 30 = .ok (.dup, 1) := by decide +kernel
theorem dX5_init_31 : decode cX5_init 31 = .ok (.invokespecial 11, 3) := by decide +kernel
theorem dX5_init_34 : decode cX5_init 34 = .ok (.putfield 21, 3) := by decide +kernel
theorem dX5_init_37 : decode cX5_init 37 = .ok (.aload_n 0, 1) := by decide +kernel
theorem dX5_init_38 : decode cX5_init 38 = .ok (.new 24, 3) := by decide +kernel
theorem dX5_init_41 : decode cX5_init 41 = .ok (.dup, 1) := by decide +kernel
theorem dX5_init_42 : decode cX5_init 42 = .ok (.invokespecial 26, 3) := by decide +kernel
theorem dX5_init_45 : decode cX5_init 45 = .ok (.putfield 27, 3) := by decide +kernel
theorem dX5_init_48 : decode cX5_init 48 = .ok (.aload_n 0, 1) := by decide +kernel
theorem dX5_init_49 : decode cX5_init 49 = .ok (.new 31, 3) := by decide +kernel
theorem dX5_init_52 : decode cX5_init 52 = .ok (.dup, 1) := by decide +kernel
theorem dX5_init_53 : decode cX5_init 53 = .ok (.invokespecial 33, 3) := by decide +kernel
theorem dX5_init_56 : decode cX5_init 56 = .ok (.putfield 34, 3) := by decide +kernel
theorem dX5_init_59 : decode cX5_init 59 = .ok (.return_, 1) := by decide +kernel
theorem dX5_seek_0 : decode cX5_seek 0 = .ok (.aload_n 0, 1) := by decide +kernel
theorem dX5_seek_1 : decode cX5_seek 1 = .ok (.getfield 18, 3) := by decide +kernel
theorem dX5_seek_4 : decode cX5_seek 4 = .ok (.aload_n 1, 1) := by decide +kernel
theorem dX5_seek_5 : decode cX5_seek 5 = .ok (.invokevirtual 38, 3) := by decide +kernel
theorem dX5_seek_8 : decode cX5_seek 8 = .ok (.aload_n 0, 1) := by decide +kernel
theorem dX5_seek_9 : decode cX5_seek 9 = .ok (.getfield 21, 3) := by decide +kernel
theorem dX5_seek_12 : decode cX5_seek 12 = .ok (.aload_n 2, 1) := by decide +kernel
theorem dX5_seek_13 : decode cX5_seek 13 = .ok (.invokevirtual 38, 3) := by decide +kernel
theorem dX5_seek_16 : decode cX5_seek 16 = .ok (.iconst 0, 1) := by decide +kernel
theorem dX5_seek_17 : decode cX5_seek 17 = .ok (.istore 4, 2) := by decide +kernel
theorem dX5_seek_19 : decode cX5_seek 19 = .ok (.iload 4, 2) := by decide +kernel
theorem dX5_seek_21 : decode cX5_seek 21 = .ok (.ldc 42, 2) := by decide +kernel
theorem dX5_seek_23 : decode cX5_seek 23 = .ok (.if_icmp .ge 60, 3) := by decide +kernel
theorem dX5_seek_26 : decode cX5_seek 26 = .ok (.aload_n 0, 1) := by decide +kernel
theorem dX5_seek_27 : decode cX5_seek 27 = .ok (.getfield 21, 3) := by decide +kernel
theorem dX5_seek_30 : decode cX5_seek 30 = .ok (.invokevirtual 43, 3) := by decide +kernel
theorem dX5_seek_33 : decode cX5_seek 33 = .ok (.ifCond .ne 50, 3) := by decide +kernel
theorem dX5_seek_36 : decode cX5_seek 36 = .ok (.aload_n 0, 1) := by decide +kernel
theorem dX5_seek_37 : decode cX5_seek 37 = .ok (.getfield 27, 3) := by decide +kernel
theorem dX5_seek_40 : decode cX5_seek 40 = .ok (.aload_n 0, 1) := by decide +kernel
theorem dX5_seek_41 : decode cX5_seek 41 = .ok (.getfield 18, 3) := by decide +kernel
theorem dX5_seek_44 : decode cX5_seek 44 = .ok (.aload_n 0, 1) := by decide +kernel
theorem dX5_seek_45 : decode cX5_seek 45 = .ok (.getfield 21, 3) := by decide +kernel
theorem dX5_seek_48 : decode cX5_seek 48 = .ok (.iload_n 3, 1) := by decide +kernel
theorem dX5_seek_49 : decode cX5_seek 49 = .ok (.invokevirtual 47, 3) := by decide +kernel
theorem dX5_seek_52 : decode cX5_seek 52 = .ok (.aload_n 0, 1) := by decide +kernel
theorem dX5_seek_53 : decode cX5_seek 53 = .ok (.getfield 18, 3) := by decide +kernel
theorem dX5_seek_56 : decode cX5_seek 56 = .ok (.aload_n 0, 1) := by decide +kernel
theorem dX5_seek_57 : decode cX5_seek 57 = .ok (.getfield 21, 3) := by decide +kernel
theorem dX5_seek_60 : decode cX5_seek 60 = .ok (.invokevirtual 38, 3) := by decide +kernel
theorem dX5_seek_63 : decode cX5_seek 63 = .ok (.aload_n 0, 1) := by decide +kernel
theorem dX5_seek_64 : decode cX5_seek 64 = .ok (.getfield 21, 3) := by decide +kernel
theorem dX5_seek_67 : decode cX5_seek 67 = .ok (.aload_n 0, 1) := by decide +kernel
theorem dX5_seek_68 : decode cX5_seek 68 = .ok (.getfield 27, 3) := by decide +kernel
theorem dX5_seek_71 : decode cX5_seek 71 = .ok (.getfield 51, 3) := by decide +kernel
theorem dX5_seek_74 : decode cX5_seek 74 = .ok (.invokevirtual 38, 3) := by decide +kernel
theorem dX5_seek_77 : decode cX5_seek 77 = .ok (.iinc 4 1, 3) := by decide +kernel
theorem dX5_seek_80 : decode cX5_seek 80 = .ok (.goto (-61), 3) := by decide +kernel
theorem dX5_seek_83 : decode cX5_seek 83 = .ok (.aload_n 0, 1) := by decide +kernel
theorem dX5_seek_84 : decode cX5_seek 84 = .ok (.getfield 34, 3) := by decide +kernel
theorem dX5_seek_87 : decode cX5_seek 87 = .ok (.aload_n 0, 1) := by decide +kernel
theorem dX5_seek_88 : decode cX5_seek 88 = .ok (.getfield 18, 3) := by decide +kernel
theorem dX5_seek_91 : decode cX5_seek 91 = .ok (.iload_n 3, 1) := by decide +kernel
theorem dX5_seek_92 : decode cX5_seek 92 = .ok (.ifCond .ne 7, 3) := by decide +kernel
theorem dX5_seek_95 : decode cX5_seek 95 = .ok (.iconst 1, 1) := by decide +kernel
theorem dX5_seek_96 : decode cX5_seek 96 = .ok (.goto 4, 3) := by decide +kernel
theorem dX5_seek_99 : decode cX5_seek 99 = .ok (.iconst 0, 1) := by decide +kernel
theorem dX5_seek_100 : decode cX5_seek 100 = .ok (.invokevirtual 54, 3) := by decide +kernel
theorem dX5_seek_103 : decode cX5_seek 103 = .ok (.aload_n 0, 1) := by decide +kernel
theorem dX5_seek_104 : decode cX5_seek 104 = .ok (.getfield 12, 3) := by decide +kernel
theorem dX5_seek_107 : decode cX5_seek 107 = .ok (.aload_n 0, 1) := by decide +kernel
theorem dX5_seek_108 : decode cX5_seek 108 = .ok (.getfield 34, 3) := by decide +kernel
theorem dX5_seek_111 : decode cX5_seek 111 = .ok (.getfield 58, 3) := by decide +kernel
theorem dX5_seek_114 : decode cX5_seek 114 = .ok (.invokevirtual 38, 3) := by decide +kernel
theorem dX5_seek_117 : decode cX5_seek 117 = .ok (.return_, 1) := by decide +kernel
theorem dX6_init_0 : decode cX6_init 0 = .ok (.aload_n 0, 1) := by decide +kernel
theorem dX6_init_1 : decode cX6_init 1 = .ok (.invokespecial 3, 3) := by decide +kernel
theorem dX6_init_4 : decode cX6_init 4 = .ok (.aload_n 0, 1) := by decide +kernel
theorem dX6_init_5 : decode cX6_init 5 = .ok (.new 9, 3) := by decide +kernel
theorem dX6_init_8 : decode cX6_init 8 = .ok (.dup, 1) := by decide +kernel
theorem dX6_init_9 : decode cX6_init 9 = .ok (.invokespecial 11, 3) := by decide +kernel
theorem dX6_init_12 : decode cX6_init 12 = .ok (.putfield 12, 3) := by decide +kernel
theorem dX6_init_15 : decode cX6_init 15 = .ok (.aload_n 0, 1) := by decide +kernel
theorem dX6_init_16 : decode cX6_init 16 = .ok (.sipush 601, 3) := by decide +kernel
theorem dX6_init_19 : decode cX6_init 19 = .ok (.newarray .int, 2) := by decide +kernel
theorem dX6_init_21 : decode cX6_init 21 = .ok (.putfield 18, 3) := by decide +kernel
theorem dX6_init_24 : decode cX6_init 24 = .ok (.iconst 0, 1) := by decide +kernel
theorem dX6_init_25 : decode cX6_init 25 = .ok (.istore_n 1, 1) := by decide +kernel
theorem dX6_init_26 : decode cX6_init 26 = .ok (.iconst 0, 1) := by decide +kernel
theorem dX6_init_27 : decode cX6_init 27 = .ok (.istore_n 2, 1) := by decide +kernel
theorem dX6_init_28 : decode cX6_init 28 = .ok (.iload_n 2, 1) := by decide +kernel
theorem dX6_init_29 : decode cX6_init 29 = .ok (.aload_n 0, 1) := by decide +kernel
theorem dX6_init_30 : decode cX6_init 30 = .ok (.getfield 18, 3) := by decide +kernel
theorem dX6_init_33 : decode cX6_init 33 = .ok (.arraylength, 1) := by decide +kernel
theorem dX6_init_34 : decode cX6_init 34 = .ok (.if_icmp .ge 30, 3) := by decide +kernel
theorem dX6_init_37 : decode cX6_init 37 = .ok (.iload_n 1, 1) := by decide +kernel
theorem dX6_init_38 : decode cX6_init 38 = .ok (.iconst 1, 1) := by decide +kernel
theorem dX6_init_39 : decode cX6_init 39 = .ok (.iadd, 1) := by decide +kernel
theorem dX6_init_40 : decode cX6_init 40 = .ok (.iload_n 1, 1) := by decide +kernel
theorem dX6_init_41 : decode cX6_init 41 = .ok (.iconst 1, 1) := by decide +kernel
theorem dX6_init_42 : decode cX6_init 42 = .ok (.iadd, 1) := by decide +kernel
theorem dX6_init_43 : decode cX6_init 43 = .ok (.imul, 1) := by decide +kernel
theorem dX6_init_44 : decode cX6_init 44 = .ok (.iload_n 2, 1) := by decide +kernel
theorem dX6_init_45 : decode cX6_init 45 = .ok (.if_icmp .gt 6, 3) := by decide +kernel
theorem dX6_init_48 : decode cX6_init 48 = .ok (.iinc 1 1, 3) := by decide +kernel
theorem dX6_init_51 : decode cX6_init 51 = .ok (.aload_n 0, 1) := by decide +kernel
theorem dX6_init_52 : decode cX6_init 52 = .ok (.getfield 18, 3) := by decide +kernel
theorem dX6_init_55 : decode cX6_init 55 = .ok (.iload_n 2, 1) := by decide +kernel
theorem dX6_init_56 : decode cX6_init 56 = .ok (.iload_n 1, 1) := by decide +kernel
theorem dX6_init_57 : decode cX6_init 57 = .ok (.iastore, 1) := by decide +kernel
theorem dX6_init_58 : decode cX6_init 58 = .ok (.iinc 2 1, 3) := by decide +kernel
theorem dX6_init_61 : decode cX6_init 61 = .ok (.goto (-33), 3) := by decide +kernel
theorem dX6_init_64 : decode cX6_init 64 = .ok (.aload_n 0, 1) := by decide +kernel
theorem dX6_init_65 : decode cX6_init 65 = .ok (.iconst 0, 1) := by decide +kernel
theorem dX6_init_66 : decode cX6_init 66 = .ok (.putfield 22, 3) := by decide +kernel
theorem dX6_init_69 : decode cX6_init 69 = .ok (.return_, 1) := by decide +kernel
theorem dX6_seek_0 : decode cX6_seek 0 = .ok (.aload_n 0, 1) := by decide +kernel
theorem dX6_seek_1 : decode cX6_seek 1 = .ok (.iload_n 2, 1) := by decide +kernel
theorem dX6_seek_2 : decode cX6_seek 2 = .ok (.putfield 22, 3) := by decide +kernel
theorem dX6_seek_5 : decode cX6_seek 5 = .ok (.iconst 4, 1) := by decide +kernel
theorem dX6_seek_6 : decode cX6_seek 6 = .ok (.iload_n 1, 1) := by decide +kernel
theorem dX6_seek_7 : decode cX6_seek 7 = .ok (.imul, 1) := by decide +kernel
theorem dX6_seek_8 : decode cX6_seek 8 = .ok (.istore_n 3, 1) := by decide +kernel
theorem dX6_seek_9 : decode cX6_seek 9 = .ok (.aload_n 0, 1) := by decide +kernel
theorem dX6_seek_10 : decode cX6_seek 10 = .ok (.iload_n 3, 1) := by decide +kernel
theorem dX6_seek_11 : decode cX6_seek 11 = .ok (.invokevirtual 26, 3) := by decide +kernel
theorem dX6_seek_14 : decode cX6_seek 14 = .ok (.istore 4, 2) := by decide +kernel
theorem dX6_seek_16 : decode cX6_seek 16 = .ok (.iload 4, 2) := by decide +kernel
theorem dX6_seek_18 : decode cX6_seek 18 = .ok (.ineg, 1) := by decide +kernel
theorem dX6_seek_19 : decode cX6_seek 19 = .ok (.istore 5, 2) := by decide +kernel
theorem dX6_seek_21 : decode cX6_seek 21 = .ok (.iload 5, 2) := by decide +kernel
theorem dX6_seek_23 : decode cX6_seek 23 = .ok (.iload 4, 2) := by decide +kernel
theorem dX6_seek_25 : decode cX6_seek 25 = .ok (.if_icmp .gt 75, 3) := by decide +kernel
theorem dX6_seek_28 : decode cX6_seek 28 = .ok (.iload_n 3, 1) := by decide +kernel
theorem dX6_seek_29 : decode cX6_seek 29 = .ok (.iload 5, 2) := by decide +kernel
theorem dX6_seek_31 : decode cX6_seek 31 = .ok (.iload 5, 2) := by decide +kernel
theorem dX6_seek_33 : decode cX6_seek 33 = .ok (.imul, 1) := by decide +kernel
theorem dX6_seek_34 : decode cX6_seek 34 = .ok (.isub, 1) := by decide +kernel
theorem dX6_seek_35 : decode cX6_seek 35 = .ok (.istore 6, 2) := by decide +kernel
theorem dX6_seek_37 : decode cX6_seek 37 = .ok (.aload_n 0, 1) := by decide +kernel
theorem dX6_seek_38 : decode cX6_seek 38 = .ok (.iload 6, 2) := by decide +kernel
theorem dX6_seek_40 : decode cX6_seek 40 = .ok (.invokevirtual 26, 3) := by decide +kernel
theorem dX6_seek_43 : decode cX6_seek 43 = .ok (.istore 7, 2) := by decide +kernel
theorem dX6_seek_45 : decode cX6_seek 45 = .ok (.iload 7, 2) := by decide +kernel
theorem dX6_seek_47 : decode cX6_seek 47 = .ok (.ineg, 1) := by decide +kernel
theorem dX6_seek_48 : decode cX6_seek 48 = .ok (.istore 8, 2) := by decide +kernel
theorem dX6_seek_50 : decode cX6_seek 50 = .ok (.iload 8, 2) := by decide +kernel
theorem dX6_seek_52 : decode cX6_seek 52 = .ok (.iload 7, 2) := by decide +kernel
theorem dX6_seek_54 : decode cX6_seek 54 = .ok (.if_icmp .gt 40, 3) := by decide +kernel
theorem dX6_seek_57 : decode cX6_seek 57 = .ok (.iload 5, 2) := by decide +kernel
theorem dX6_seek_59 : decode cX6_seek 59 = .ok (.iload 8, 2) := by decide +kernel
theorem dX6_seek_61 : decode cX6_seek 61 = .ok (.iadd, 1) := by decide +kernel
theorem dX6_seek_62 : decode cX6_seek 62 = .ok (.iconst 1, 1) := by decide +kernel
theorem dX6_seek_63 : decode cX6_seek 63 = .ok (.iand, 1) := by decide +kernel
theorem dX6_seek_64 : decode cX6_seek 64 = .ok (.ifCond .ne 24, 3) := by decide +kernel
theorem dX6_seek_67 : decode cX6_seek 67 = .ok (.aload_n 0, 1) := by decide +kernel
theorem dX6_seek_68 : decode cX6_seek 68 = .ok (.iload 5, 2) := by decide +kernel
theorem dX6_seek_70 : decode cX6_seek 70 = .ok (.iload 8, 2) := by decide +kernel
theorem dX6_seek_72 : decode cX6_seek 72 = .ok (.iload 6, 2) := by decide +kernel
theorem dX6_seek_74 : decode cX6_seek 74 = .ok (.iload 8, 2) := by decide +kernel
theorem dX6_seek_76 : decode cX6_seek 76 = .ok (.iload 8, 2) := by decide +kernel
theorem dX6_seek_78 : decode cX6_seek 78 = .ok (.imul, 1) := by decide +kernel
theorem dX6_seek_79 : decode cX6_seek 79 = .ok (.isub, 1) := by decide +kernel
theorem dX6_seek_80 : decode cX6_seek 80 = .ok (.invokevirtual 30, 3) := by decide +kernel
theorem dX6_seek_83 : decode cX6_seek 83 = .ok (.ifCond .eq 5, 3) := by decide +kernel
theorem dX6_seek_86 : decode cX6_seek 86 = .ok (.iconst 1, 1) := by decide +kernel
theorem dX6_seek_87 : decode cX6_seek 87 = .ok (.ireturn, 1) := by decide +kernel
theorem dX6_seek_88 : decode cX6_seek 88 = .ok (.iinc 8 1, 3) := by decide +kernel
theorem dX6_seek_91 : decode cX6_seek 91 = .ok (.goto (-41), 3) := by decide +kernel
theorem dX6_seek_94 : decode cX6_seek 94 = .ok (.iinc 5 1, 3) := by decide +kernel
theorem dX6_seek_97 : decode cX6_seek 97 = .ok (.goto (-76), 3) := by decide +kernel
theorem dX6_seek_100 : decode cX6_seek 100 = .ok (.iconst 0, 1) := by decide +kernel
theorem dX6_seek_101 : decode cX6_seek 101 = .ok (.ireturn, 1) := by decide +kernel
theorem dX6_seekBehind_0 : decode cX6_seekBehind 0 = .ok (.aload_n 0, 1) := by decide +kernel
theorem dX6_seekBehind_1 : decode cX6_seekBehind 1 = .ok (.iload_n 3, 1) := by decide +kernel
theorem dX6_seekBehind_2 : decode cX6_seekBehind 2 = .ok (.invokevirtual 26, 3) := by decide +kernel
theorem dX6_seekBehind_5 : decode cX6_seekBehind 5 = .ok (.istore 4, 2) := by decide +kernel
theorem dX6_seekBehind_7 : decode cX6_seekBehind 7 = .ok (.iload 4, 2) := by decide +kernel
theorem dX6_seekBehind_9 : decode cX6_seekBehind 9 = .ok (.ineg, 1) := by decide +kernel
theorem dX6_seekBehind_10 : decode cX6_seekBehind 10 = .ok (.istore 5, 2) := by decide +kernel
theorem dX6_seekBehind_12 : decode cX6_seekBehind 12 = .ok (.iload 5, 2) := by decide +kernel
theorem dX6_seekBehind_14 : decode cX6_seekBehind 14 = .ok (.iload 4, 2) := by decide +kernel
theorem dX6_seekBehind_16 : decode cX6_seekBehind 16 = .ok (.if_icmp .gt 88, 3) := by decide +kernel
theorem dX6_seekBehind_19 : decode cX6_seekBehind 19 = .ok (.iload_n 2, 1) := by decide +kernel
theorem dX6_seekBehind_20 : decode cX6_seekBehind 20 = .ok (.iload 5, 2) := by decide +kernel
theorem dX6_seekBehind_22 : decode cX6_seekBehind 22 = .ok (.iadd, 1) := by decide +kernel
theorem dX6_seekBehind_23 : decode cX6_seekBehind 23 = .ok (.iconst 1, 1) := by decide +kernel
theorem dX6_seekBehind_24 : decode cX6_seekBehind 24 = .ok (.iand, 1) := by decide +kernel
theorem dX6_seekBehind_25 : decode cX6_seekBehind 25 = .ok (.ifCond .eq 6, 3) := by decide +kernel
theorem dX6_seekBehind_28 : decode cX6_seekBehind 28 = .ok (.goto 70, 3) := by decide +kernel
theorem dX6_seekBehind_31 : decode cX6_seekBehind 31 = .ok (.aload_n 0, 1) := by decide +kernel
theorem dX6_seekBehind_32 : decode cX6_seekBehind 32 = .ok (.iload_n 3, 1) := by decide +kernel
theorem dX6_seekBehind_33 : decode cX6_seekBehind 33 = .ok (.iload 5, 2) := by decide +kernel
theorem dX6_seekBehind_35 : decode cX6_seekBehind 35 = .ok (.iload 5, 2) := by decide +kernel
theorem dX6_seekBehind_37 : decode cX6_seekBehind 37 = .ok (.imul, 1) := by decide +kernel
theorem dX6_seekBehind_38 : decode cX6_seekBehind 38 = .ok (.isub, 1) := by decide +kernel
theorem dX6_seekBehind_39 : decode cX6_seekBehind 39 = .ok (.invokevirtual 26, 3) := by decide +kernel
theorem dX6_seekBehind_42 : decode cX6_seekBehind 42 = .ok (.istore 6, 2) := by decide +kernel
theorem dX6_seekBehind_44 : decode cX6_seekBehind 44 = .ok (.iload 6, 2) := by decide +kernel
theorem dX6_seekBehind_46 : decode cX6_seekBehind 46 = .ok (.iload 6, 2) := by decide +kernel
theorem dX6_seekBehind_48 : decode cX6_seekBehind 48 = .ok (.imul, 1) := by decide +kernel
theorem dX6_seekBehind_49 : decode cX6_seekBehind 49 = .ok (.iload_n 3, 1) := by decide +kernel
theorem dX6_seekBehind_50 : decode cX6_seekBehind 50 = .ok (.iload 5, 2) := by decide +kernel
theorem dX6_seekBehind_52 : decode cX6_seekBehind 52 = .ok (.iload 5, 2) := by decide +kernel
theorem dX6_seekBehind_54 : decode cX6_seekBehind 54 = .ok (.imul, 1) := by decide +kernel
theorem dX6_seekBehind_55 : decode cX6_seekBehind 55 = .ok (.isub, 1) := by decide +kernel
theorem dX6_seekBehind_56 : decode cX6_seekBehind 56 = .ok (.if_icmp .eq 6, 3) := by decide +kernel
theorem dX6_seekBehind_59 : decode cX6_seekBehind 59 = .ok (.goto 39, 3) := by decide +kernel
theorem dX6_seekBehind_62 : decode cX6_seekBehind 62 = .ok (.aload_n 0, 1) := by decide +kernel
theorem dX6_seekBehind_63 : decode cX6_seekBehind 63 = .ok (.iload_n 1, 1) := by decide +kernel
theorem dX6_seekBehind_64 : decode cX6_seekBehind 64 = .ok (.iload_n 2, 1) := by decide +kernel
theorem dX6_seekBehind_65 : decode cX6_seekBehind 65 = .ok (.iload 5, 2) := by decide +kernel
theorem dX6_seekBehind_67 : decode cX6_seekBehind 67 = .ok (.iload 6, 2) := by decide +kernel
theorem dX6_seekBehind_69 : decode cX6_seekBehind 69 = .ok (.ineg, 1) := by decide +kernel
theorem dX6_seekBehind_70 : decode cX6_seekBehind 70 = .ok (.invokevirtual 34, 3) := by decide +kernel
theorem dX6_seekBehind_73 : decode cX6_seekBehind 73 = .ok (.ifCond .eq 5, 3) := by decide +kernel
theorem dX6_seekBehind_76 : decode cX6_seekBehind 76 = .ok (.iconst 1, 1) := by decide +kernel
theorem dX6_seekBehind_77 : decode cX6_seekBehind 77 = .ok (.ireturn, 1) := by decide +kernel
theorem dX6_seekBehind_78 : decode cX6_seekBehind 78 = .ok (.iload 6, 2) := by decide +kernel
theorem dX6_seekBehind_80 : decode cX6_seekBehind 80 = .ok (.ifCond .eq 18, 3) := by decide +kernel
theorem dX6_seekBehind_83 : decode cX6_seekBehind 83 = .ok (.aload_n 0, 1) := by decide +kernel
theorem dX6_seekBehind_84 : decode cX6_seekBehind 84 = .ok (.iload_n 1, 1) := by decide +kernel
theorem dX6_seekBehind_85 : decode cX6_seekBehind 85 = .ok (.iload_n 2, 1) := by decide +kernel
theorem dX6_seekBehind_86 : decode cX6_seekBehind 86 = .ok (.iload 5, 2) := by decide +kernel
theorem dX6_seekBehind_88 : decode cX6_seekBehind 88 = .ok (.iload 6, 2) := by decide +kernel
theorem dX6_seekBehind_90 : decode cX6_seekBehind 90 = .ok (.invokevirtual 34, 3) := by decide +kernel
theorem dX6_seekBehind_93 : decode cX6_seekBehind 93 = .ok (.ifCond .eq 5, 3) := by decide +kernel
theorem dX6_seekBehind_96 : decode cX6_seekBehind 96 = .ok (.iconst 1, 1) := by decide +kernel
theorem dX6_seekBehind_97 : decode cX6_seekBehind 97 = .ok (.ireturn, 1) := by decide +kernel
theorem dX6_seekBehind_98 : decode cX6_seekBehind 98 = .ok (.iinc 5 1, 3) := by decide +kernel
theorem dX6_seekBehind_101 : decode cX6_seekBehind 101 = .ok (.goto (-89), 3) := by decide +kernel
theorem dX6_seekBehind_104 : decode cX6_seekBehind 104 = .ok (.iconst 0, 1) := by decide +kernel
theorem dX6_seekBehind_105 : decode cX6_seekBehind 105 = .ok (.ireturn, 1) := by decide +kernel
theorem dX6_isReached_0 : decode cX6_isReached 0 = .ok (.aload_n 0, 1) := by decide +kernel
theorem dX6_isReached_1 : decode cX6_isReached 1 = .ok (.getfield 22, 3) := by decide +kernel
theorem dX6_isReached_4 : decode cX6_isReached 4 = .ok (.ifCond .ne 21, 3) := by decide +kernel
theorem dX6_isReached_7 : decode cX6_isReached 7 = .ok (.aload_n 0, 1) := by decide +kernel
theorem dX6_isReached_8 : decode cX6_isReached 8 = .ok (.getfield 12, 3) := by decide +kernel
theorem dX6_isReached_11 : decode cX6_isReached 11 = .ok (.iload_n 1, 1) := by decide +kernel
theorem dX6_isReached_12 : decode cX6_isReached 12 = .ok (.i2l, 1) := by decide +kernel
theorem dX6_isReached_13 : decode cX6_isReached 13 = .ok (.iload_n 2, 1) := by decide +kernel
theorem dX6_isReached_14 : decode cX6_isReached 14 = .ok (.i2l, 1) := by decide +kernel
theorem dX6_isReached_15 : decode cX6_isReached 15 = .ok (.iload_n 3, 1) := by decide +kernel
theorem dX6_isReached_16 : decode cX6_isReached 16 = .ok (.i2l, 1) := by decide +kernel
theorem dX6_isReached_17 : decode cX6_isReached 17 = .ok (.iload 4, 2) := by decide +kernel
theorem dX6_isReached_19 : decode cX6_isReached 19 = .ok (.i2l, 1) := by decide +kernel
theorem dX6_isReached_20 : decode cX6_isReached 20 = .ok (.invokevirtual 38, 3) := by decide +kernel
theorem dX6_isReached_23 : decode cX6_isReached 23 = .ok (.iconst 1, 1) := by decide +kernel
theorem dX6_isReached_24 : decode cX6_isReached 24 = .ok (.ireturn, 1) := by decide +kernel
theorem dX6_isReached_25 : decode cX6_isReached 25 = .ok (.aload_n 0, 1) := by decide +kernel
theorem dX6_isReached_26 : decode cX6_isReached 26 = .ok (.dup, 1) := by decide +kernel
theorem dX6_isReached_27 : decode cX6_isReached 27 = .ok (.getfield 22, 3) := by decide +kernel
theorem dX6_isReached_30 : decode cX6_isReached 30 = .ok (.iconst 1, 1) := by decide +kernel
theorem dX6_isReached_31 : decode cX6_isReached 31 = .ok (.isub, 1) := by decide +kernel
theorem dX6_isReached_32 : decode cX6_isReached 32 = .ok (.putfield 22, 3) := by decide +kernel
theorem dX6_isReached_35 : decode cX6_isReached 35 = .ok (.iconst 0, 1) := by decide +kernel
theorem dX6_isReached_36 : decode cX6_isReached 36 = .ok (.ireturn, 1) := by decide +kernel
theorem dX6_root_0 : decode cX6_root 0 = .ok (.iload_n 1, 1) := by decide +kernel
theorem dX6_root_1 : decode cX6_root 1 = .ok (.ifCond .lt 12, 3) := by decide +kernel
theorem dX6_root_4 : decode cX6_root 4 = .ok (.iload_n 1, 1) := by decide +kernel
theorem dX6_root_5 : decode cX6_root 5 = .ok (.aload_n 0, 1) := by decide +kernel
theorem dX6_root_6 : decode cX6_root 6 = .ok (.getfield 18, 3) := by decide +kernel
theorem dX6_root_9 : decode cX6_root 9 = .ok (.arraylength, 1) := by decide +kernel
theorem dX6_root_10 : decode cX6_root 10 = .ok (.if_icmp .lt 7, 3) := by decide +kernel
theorem dX6_root_13 : decode cX6_root 13 = .ok (.iconst 0, 1) := by decide +kernel
theorem dX6_root_14 : decode cX6_root 14 = .ok (.goto 9, 3) := by decide +kernel
theorem dX6_root_17 : decode cX6_root 17 = .ok (.aload_n 0, 1) := by decide +kernel
theorem dX6_root_18 : decode cX6_root 18 = .ok (.getfield 18, 3) := by decide +kernel
theorem dX6_root_21 : decode cX6_root 21 = .ok (.iload_n 1, 1) := by decide +kernel
theorem dX6_root_22 : decode cX6_root 22 = .ok (.iaload, 1) := by decide +kernel
theorem dX6_root_23 : decode cX6_root 23 = .ok (.ireturn, 1) := by decide +kernel
theorem dX7_init_0 : decode cX7_init 0 = .ok (.aload_n 0, 1) := by decide +kernel
theorem dX7_init_1 : decode cX7_init 1 = .ok (.invokespecial 3, 3) := by decide +kernel
theorem dX7_init_4 : decode cX7_init 4 = .ok (.aload_n 0, 1) := by decide +kernel
theorem dX7_init_5 : decode cX7_init 5 = .ok (.new 9, 3) := by decide +kernel
theorem dX7_init_8 : decode cX7_init 8 = .ok (.dup, 1) := by decide +kernel
theorem dX7_init_9 : decode cX7_init 9 = .ok (.invokespecial 11, 3) := by decide +kernel
theorem dX7_init_12 : decode cX7_init 12 = .ok (.putfield 12, 3) := by decide +kernel
theorem dX7_init_15 : decode cX7_init 15 = .ok (.aload_n 0, 1) := by decide +kernel
theorem dX7_init_16 : decode cX7_init 16 = .ok (.new 9, 3) := by decide +kernel
theorem dX7_init_19 : decode cX7_init 19 = .ok (.dup, 1) := by decide +kernel
theorem dX7_init_20 : decode cX7_init 20 = .ok (.invokespecial 11, 3) := by decide +kernel
theorem dX7_init_23 : decode cX7_init 23 = .ok (.putfield 18, 3) := by decide +kernel
theorem dX7_init_26 : decode cX7_init 26 = .ok (.aload_n 0, 1) := by decide +kernel
theorem dX7_init_27 : decode cX7_init 27 = .ok (.new 9, 3) := by decide +kernel
theorem dX7_init_30 : decode cX7_init 30 = .ok (.dup, 1) := by decide +kernel
theorem dX7_init_31 : decode cX7_init 31 = .ok (.invokespecial 11, 3) := by decide +kernel
theorem dX7_init_34 : decode cX7_init 34 = .ok (.putfield 21, 3) := by decide +kernel
theorem dX7_init_37 : decode cX7_init 37 = .ok (.aload_n 0, 1) := by decide +kernel
theorem dX7_init_38 : decode cX7_init 38 = .ok (.new 9, 3) := by decide +kernel
theorem dX7_init_41 : decode cX7_init 41 = .ok (.dup, 1) := by decide +kernel
theorem dX7_init_42 : decode cX7_init 42 = .ok (.invokespecial 11, 3) := by decide +kernel
theorem dX7_init_45 : decode cX7_init 45 = .ok (.putfield 24, 3) := by decide +kernel
theorem dX7_init_48 : decode cX7_init 48 = .ok (.aload_n 0, 1) := by decide +kernel
theorem dX7_init_49 : decode cX7_init 49 = .ok (.new 27, 3) := by decide +kernel
theorem dX7_init_52 : decode cX7_init 52 = .ok (.dup, 1) := by decide +kernel
theorem dX7_init_53 : decode cX7_init 53 = .ok (.invokespecial 29, 3) := by decide +kernel
theorem dX7_init_56 : decode cX7_init 56 = .ok (.putfield 30, 3) := by decide +kernel
theorem dX7_init_59 : decode cX7_init 59 = .ok (.return_, 1) := by decide +kernel
theorem dX7_split_0 : decode cX7_split 0 = .ok (.aload_n 0, 1) := by decide +kernel
theorem dX7_split_1 : decode cX7_split 1 = .ok (.getfield 18, 3) := by decide +kernel
theorem dX7_split_4 : decode cX7_split 4 = .ok (.aload_n 1, 1) := by decide +kernel
theorem dX7_split_5 : decode cX7_split 5 = .ok (.invokevirtual 34, 3) := by decide +kernel
theorem dX7_split_8 : decode cX7_split 8 = .ok (.aload_n 1, 1) := by decide +kernel
theorem dX7_split_9 : decode cX7_split 9 = .ok (.invokevirtual 38, 3) := by decide +kernel
theorem dX7_split_12 : decode cX7_split 12 = .ok (.lstore_n 3, 1) := by decide +kernel
theorem dX7_split_13 : decode cX7_split 13 = .ok (.iconst 0, 1) := by decide +kernel
theorem dX7_split_14 : decode cX7_split 14 = .ok (.istore 5, 2) := by decide +kernel
theorem dX7_split_16 : decode cX7_split 16 = .ok (.iconst 0, 1) := by decide +kernel
theorem dX7_split_17 : decode cX7_split 17 = .ok (.istore 6, 2) := by decide +kernel
theorem dX7_split_19 : decode cX7_split 19 = .ok (.iload 6, 2) := by decide +kernel
theorem dX7_split_21 : decode cX7_split 21 = .ok (.bipush 64, 2) := by decide +kernel
theorem dX7_split_23 : decode cX7_split 23 = .ok (.if_icmp .ge 67, 3) := by decide +kernel
theorem dX7_split_26 : decode cX7_split 26 = .ok (.lload_n 3, 1) := by decide +kernel
theorem dX7_split_27 : decode cX7_split 27 = .ok (.lconst 1, 1) := by decide +kernel
theorem dX7_split_28 : decode cX7_split 28 = .ok (.lcmp, 1) := by decide +kernel
theorem dX7_split_29 : decode cX7_split 29 = .ok (.ifCond .le 61, 3) := by decide +kernel
theorem dX7_split_32 : decode cX7_split 32 = .ok (.lload_n 3, 1) := by decide +kernel
theorem dX7_split_33 : decode cX7_split 33 = .ok (.invokestatic 42, 3) := by decide +kernel
theorem dX7_split_36 : decode cX7_split 36 = .ok (.lstore 7, 2) := by decide +kernel
theorem dX7_split_38 : decode cX7_split 38 = .ok (.lload 7, 2) := by decide +kernel
theorem dX7_split_40 : decode cX7_split 40 = .ok (.ldc2_w 46, 3) := by decide +kernel
theorem dX7_split_43 : decode cX7_split 43 = .ok (.lcmp, 1) := by decide +kernel
theorem dX7_split_44 : decode cX7_split 44 = .ok (.ifCond .ge 6, 3) := by decide +kernel
theorem dX7_split_47 : decode cX7_split 47 = .ok (.goto 43, 3) := by decide +kernel
theorem dX7_split_50 : decode cX7_split 50 = .ok (.lload_n 3, 1) := by decide +kernel
theorem dX7_split_51 : decode cX7_split 51 = .ok (.lload 7, 2) := by decide +kernel
theorem dX7_split_53 : decode cX7_split 53 = .ok (.ldiv, 1) := by decide +kernel
theorem dX7_split_54 : decode cX7_split 54 = .ok (.lstore_n 3, 1) := by decide +kernel
theorem dX7_split_55 : decode cX7_split 55 = .ok (.aload_n 0, 1) := by decide +kernel
theorem dX7_split_56 : decode cX7_split 56 = .ok (.lload 7, 2) := by decide +kernel
theorem dX7_split_58 : decode cX7_split 58 = .ok (.invokevirtual 48, 3) := by decide +kernel
theorem dX7_split_61 : decode cX7_split 61 = .ok (.iload 5, 2) := by decide +kernel
theorem dX7_split_63 : decode cX7_split 63 = .ok (.iload_n 2, 1) := by decide +kernel
theorem dX7_split_64 : decode cX7_split 64 = .ok (.if_icmp .ne 17, 3) := by decide +kernel
theorem dX7_split_67 : decode cX7_split 67 = .ok (.aload_n 0, 1) := by decide +kernel
theorem dX7_split_68 : decode cX7_split 68 = .ok (.getfield 12, 3) := by decide +kernel
theorem dX7_split_71 : decode cX7_split 71 = .ok (.aload_n 0, 1) := by decide +kernel
theorem dX7_split_72 : decode cX7_split 72 = .ok (.getfield 30, 3) := by decide +kernel
theorem dX7_split_75 : decode cX7_split 75 = .ok (.getfield 52, 3) := by decide +kernel
theorem dX7_split_78 : decode cX7_split 78 = .ok (.invokevirtual 34, 3) := by decide +kernel
theorem dX7_split_81 : decode cX7_split 81 = .ok (.iinc 5 1, 3) := by decide +kernel
theorem dX7_split_84 : decode cX7_split 84 = .ok (.iinc 6 1, 3) := by decide +kernel
theorem dX7_split_87 : decode cX7_split 87 = .ok (.goto (-68), 3) := by decide +kernel
theorem dX7_split_90 : decode cX7_split 90 = .ok (.iload 5, 2) := by decide +kernel
theorem dX7_split_92 : decode cX7_split 92 = .ok (.iload_n 2, 1) := by decide +kernel
theorem dX7_split_93 : decode cX7_split 93 = .ok (.if_icmp .ne 14, 3) := by decide +kernel
theorem dX7_split_96 : decode cX7_split 96 = .ok (.aload_n 0, 1) := by decide +kernel
theorem dX7_split_97 : decode cX7_split 97 = .ok (.getfield 12, 3) := by decide +kernel
theorem dX7_split_100 : decode cX7_split 100 = .ok (.aload_n 0, 1) := by decide +kernel
theorem dX7_split_101 : decode cX7_split 101 = .ok (.getfield 18, 3) := by decide +kernel
theorem dX7_split_104 : decode cX7_split 104 = .ok (.invokevirtual 34, 3) := by decide +kernel
theorem dX7_split_107 : decode cX7_split 107 = .ok (.iload 5, 2) := by decide +kernel
theorem dX7_split_109 : decode cX7_split 109 = .ok (.iconst 1, 1) := by decide +kernel
theorem dX7_split_110 : decode cX7_split 110 = .ok (.iadd, 1) := by decide +kernel
theorem dX7_split_111 : decode cX7_split 111 = .ok (.ireturn, 1) := by decide +kernel
theorem dX7_splitOff_0 : decode cX7_splitOff 0 = .ok (.aload_n 0, 1) := by decide +kernel
theorem dX7_splitOff_1 : decode cX7_splitOff 1 = .ok (.getfield 21, 3) := by decide +kernel
theorem dX7_splitOff_4 : decode cX7_splitOff 4 = .ok (.ldc2_w 46, 3) := by decide +kernel
theorem dX7_splitOff_7 : decode cX7_splitOff 7 = .ok (.lload_n 1, 1) := by decide +kernel
theorem dX7_splitOff_8 : decode cX7_splitOff 8 = .ok (.lmul, 1) := by decide +kernel
theorem dX7_splitOff_9 : decode cX7_splitOff 9 = .ok (.lconst 0, 1) := by decide +kernel
theorem dX7_splitOff_10 : decode cX7_splitOff 10 = .ok (.lconst 0, 1) := by decide +kernel
theorem dX7_splitOff_11 : decode cX7_splitOff 11 = .ok (.lconst 0, 1) := by decide +kernel
theorem dX7_splitOff_12 : decode cX7_splitOff 12 = .ok (.invokevirtual 55, 3) := by decide +kernel
theorem dX7_splitOff_15 : decode cX7_splitOff 15 = .ok (.aload_n 0, 1) := by decide +kernel
theorem dX7_splitOff_16 : decode cX7_splitOff 16 = .ok (.getfield 30, 3) := by decide +kernel
theorem dX7_splitOff_19 : decode cX7_splitOff 19 = .ok (.aload_n 0, 1) := by decide +kernel
theorem dX7_splitOff_20 : decode cX7_splitOff 20 = .ok (.getfield 18, 3) := by decide +kernel
theorem dX7_splitOff_23 : decode cX7_splitOff 23 = .ok (.aload_n 0, 1) := by decide +kernel
theorem dX7_splitOff_24 : decode cX7_splitOff 24 = .ok (.getfield 21, 3) := by decide +kernel
theorem dX7_splitOff_27 : decode cX7_splitOff 27 = .ok (.iconst 0, 1) := by decide +kernel
theorem dX7_splitOff_28 : decode cX7_splitOff 28 = .ok (.invokevirtual 58, 3) := by decide +kernel
