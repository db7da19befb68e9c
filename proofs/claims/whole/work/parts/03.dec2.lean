theorem dX10_cell_66 : decode cX10_cell 66 = .ok (.invokevirtual 298, 3) := by decide +kernel
theorem dX10_cell_69 : decode cX10_cell 69 = .ok (.aload_n 0, 1) := by decide +kernel
theorem dX10_cell_70 : decode cX10_cell 70 = .ok (.aload_n 0, 1) := by decide +kernel
theorem dX10_cell_71 : decode cX10_cell 71 = .ok (.getfield 76, 3) := by decide +kernel
theorem dX10_cell_74 : decode cX10_cell 74 = .ok (.iload_n 2, 1) := by decide +kernel
theorem dX10_cell_75 : decode cX10_cell 75 = .ok (.invokevirtual 299, 3) := by decide +kernel
theorem dX10_cell_78 : decode cX10_cell 78 = .ok (.invokevirtual 104, 3) := by decide +kernel
theorem dX10_cell_81 : decode cX10_cell 81 = .ok (.ireturn, 1) := by decide +kernel
theorem dX10_status_0 : decode cX10_status 0 = .ok (.aload_n 0, 1) := by decide +kernel
theorem dX10_status_1 : decode cX10_status 1 = .ok (.getfield 87, 3) := by decide +kernel
theorem dX10_status_4 : decode cX10_status 4 = .ok (.ireturn, 1) := by decide +kernel
theorem dX10_outside_0 : decode cX10_outside 0 = .ok (.iload_n 0, 1) := by decide +kernel
theorem dX10_outside_1 : decode cX10_outside 1 = .ok (.ifCond .lt 8, 3) := by decide +kernel
theorem dX10_outside_4 : decode cX10_outside 4 = .ok (.iload_n 0, 1) := by decide +kernel
theorem dX10_outside_5 : decode cX10_outside 5 = .ok (.iload_n 1, 1) := by decide +kernel
theorem dX10_outside_6 : decode cX10_outside 6 = .ok (.if_icmp .lt 7, 3) := by decide +kernel
theorem dX10_outside_9 : decode cX10_outside 9 = .ok (.iconst 1, 1) := by decide +kernel
theorem dX10_outside_10 : decode cX10_outside 10 = .ok (.goto 4, 3) := by decide +kernel
theorem dX10_outside_13 : decode cX10_outside 13 = .ok (.iconst 0, 1) := by decide +kernel
theorem dX10_outside_14 : decode cX10_outside 14 = .ok (.ireturn, 1) := by decide +kernel
theorem dX10_tooFar_0 : decode cX10_tooFar 0 = .ok (.iload_n 0, 1) := by decide +kernel
theorem dX10_tooFar_1 : decode cX10_tooFar 1 = .ok (.sipush (-1000), 3) := by decide +kernel
theorem dX10_tooFar_4 : decode cX10_tooFar 4 = .ok (.if_icmp .lt 10, 3) := by decide +kernel
theorem dX10_tooFar_7 : decode cX10_tooFar 7 = .ok (.iload_n 0, 1) := by decide +kernel
theorem dX10_tooFar_8 : decode cX10_tooFar 8 = .ok (.sipush 1000, 3) := by decide +kernel
theorem dX10_tooFar_11 : decode cX10_tooFar 11 = .ok (.if_icmp .le 7, 3) := by decide +kernel
theorem dX10_tooFar_14 : decode cX10_tooFar 14 = .ok (.iconst 1, 1) := by decide +kernel
theorem dX10_tooFar_15 : decode cX10_tooFar 15 = .ok (.goto 4, 3) := by decide +kernel
theorem dX10_tooFar_18 : decode cX10_tooFar 18 = .ok (.iconst 0, 1) := by decide +kernel
theorem dX10_tooFar_19 : decode cX10_tooFar 19 = .ok (.ireturn, 1) := by decide +kernel
theorem dX10_found_0 : decode cX10_found 0 = .ok (.aload_n 0, 1) := by decide +kernel
theorem dX10_found_1 : decode cX10_found 1 = .ok (.iload_n 1, 1) := by decide +kernel
theorem dX10_found_2 : decode cX10_found 2 = .ok (.putfield 87, 3) := by decide +kernel
theorem dX10_found_5 : decode cX10_found 5 = .ok (.ldc_w 301, 3) := by decide +kernel
theorem dX10_found_8 : decode cX10_found 8 = .ok (.iload_n 1, 1) := by decide +kernel
theorem dX10_found_9 : decode cX10_found 9 = .ok (.isub, 1) := by decide +kernel
theorem dX10_found_10 : decode cX10_found 10 = .ok (.ireturn, 1) := by decide +kernel
theorem dX10_answered_0 : decode cX10_answered 0 = .ok (.aload_n 0, 1) := by decide +kernel
theorem dX10_answered_1 : decode cX10_answered 1 = .ok (.iconst 0, 1) := by decide +kernel
theorem dX10_answered_2 : decode cX10_answered 2 = .ok (.putfield 87, 3) := by decide +kernel
theorem dX10_answered_5 : decode cX10_answered 5 = .ok (.iload_n 1, 1) := by decide +kernel
theorem dX10_answered_6 : decode cX10_answered 6 = .ok (.ireturn, 1) := by decide +kernel
theorem dX10_standing_0 : decode cX10_standing 0 = .ok (.iload_n 1, 1) := by decide +kernel
theorem dX10_standing_1 : decode cX10_standing 1 = .ok (.bipush 8, 2) := by decide +kernel
theorem dX10_standing_3 : decode cX10_standing 3 = .ok (.invokestatic 91, 3) := by decide +kernel
theorem dX10_standing_6 : decode cX10_standing 6 = .ok (.ifCond .eq 5, 3) := by decide +kernel
theorem dX10_standing_9 : decode cX10_standing 9 = .ok (.aconst_null, 1) := by decide +kernel
theorem dX10_standing_10 : decode cX10_standing 10 = .ok (.areturn, 1) := by decide +kernel
theorem dX10_standing_11 : decode cX10_standing 11 = .ok (.aload_n 0, 1) := by decide +kernel
theorem dX10_standing_12 : decode cX10_standing 12 = .ok (.getfield 11, 3) := by decide +kernel
theorem dX10_standing_15 : decode cX10_standing 15 = .ok (.iload_n 1, 1) := by decide +kernel
theorem dX10_standing_16 : decode cX10_standing 16 = .ok (.aaload, 1) := by decide +kernel
theorem dX10_standing_17 : decode cX10_standing 17 = .ok (.astore_n 2, 1) := by decide +kernel
theorem dX10_standing_18 : decode cX10_standing 18 = .ok (.aload_n 2, 1) := by decide +kernel
theorem dX10_standing_19 : decode cX10_standing 19 = .ok (.ifnull 11, 3) := by decide +kernel
theorem dX10_standing_22 : decode cX10_standing 22 = .ok (.aload_n 2, 1) := by decide +kernel
theorem dX10_standing_23 : decode cX10_standing 23 = .ok (.getfield 124, 3) := by decide +kernel
theorem dX10_standing_26 : decode cX10_standing 26 = .ok (.iconst (-1), 1) := by decide +kernel
theorem dX10_standing_27 : decode cX10_standing 27 = .ok (.if_icmp .ne 5, 3) := by decide +kernel
theorem dX10_standing_30 : decode cX10_standing 30 = .ok (.aconst_null, 1) := by decide +kernel
theorem dX10_standing_31 : decode cX10_standing 31 = .ok (.areturn, 1) := by decide +kernel
theorem dX10_standing_32 : decode cX10_standing 32 = .ok (.aload_n 2, 1) := by decide +kernel
theorem dX10_standing_33 : decode cX10_standing 33 = .ok (.areturn, 1) := by decide +kernel
theorem dX10_held_0 : decode cX10_held 0 = .ok (.iload_n 1, 1) := by decide +kernel
theorem dX10_held_1 : decode cX10_held 1 = .ok (.bipush 20, 2) := by decide +kernel
theorem dX10_held_3 : decode cX10_held 3 = .ok (.invokestatic 91, 3) := by decide +kernel
theorem dX10_held_6 : decode cX10_held 6 = .ok (.ifCond .ne 13, 3) := by decide +kernel
theorem dX10_held_9 : decode cX10_held 9 = .ok (.aload_n 0, 1) := by decide +kernel
theorem dX10_held_10 : decode cX10_held 10 = .ok (.getfield 22, 3) := by decide +kernel
theorem dX10_held_13 : decode cX10_held 13 = .ok (.iload_n 1, 1) := by decide +kernel
theorem dX10_held_14 : decode cX10_held 14 = .ok (.iaload, 1) := by decide +kernel
theorem dX10_held_15 : decode cX10_held 15 = .ok (.iconst (-1), 1) := by decide +kernel
theorem dX10_held_16 : decode cX10_held 16 = .ok (.if_icmp .ne 5, 3) := by decide +kernel
theorem dX10_held_19 : decode cX10_held 19 = .ok (.aconst_null, 1) := by decide +kernel
theorem dX10_held_20 : decode cX10_held 20 = .ok (.areturn, 1) := by decide +kernel
theorem dX10_held_21 : decode cX10_held 21 = .ok (.aload_n 0, 1) := by decide +kernel
theorem dX10_held_22 : decode cX10_held 22 = .ok (.getfield 18, 3) := by decide +kernel
theorem dX10_held_25 : decode cX10_held 25 = .ok (.iload_n 1, 1) := by decide +kernel
theorem dX10_held_26 : decode cX10_held 26 = .ok (.aaload, 1) := by decide +kernel
theorem dX10_held_27 : decode cX10_held 27 = .ok (.areturn, 1) := by decide +kernel
theorem dX10_keep_0 : decode cX10_keep 0 = .ok (.iload_n 1, 1) := by decide +kernel
theorem dX10_keep_1 : decode cX10_keep 1 = .ok (.bipush 20, 2) := by decide +kernel
theorem dX10_keep_3 : decode cX10_keep 3 = .ok (.invokestatic 91, 3) := by decide +kernel
theorem dX10_keep_6 : decode cX10_keep 6 = .ok (.ifCond .ne 12, 3) := by decide +kernel
theorem dX10_keep_9 : decode cX10_keep 9 = .ok (.aload_n 0, 1) := by decide +kernel
theorem dX10_keep_10 : decode cX10_keep 10 = .ok (.getfield 18, 3) := by decide +kernel
theorem dX10_keep_13 : decode cX10_keep 13 = .ok (.iload_n 1, 1) := by decide +kernel
theorem dX10_keep_14 : decode cX10_keep 14 = .ok (.aaload, 1) := by decide +kernel
theorem dX10_keep_15 : decode cX10_keep 15 = .ok (.ifnonnull 6, 3) := by decide +kernel
theorem dX10_keep_18 : decode cX10_keep 18 = .ok (.ldc 95, 2) := by decide +kernel
theorem dX10_keep_20 : decode cX10_keep 20 = .ok (.ireturn, 1) := by decide +kernel
theorem dX10_keep_21 : decode cX10_keep 21 = .ok (.aload_n 0, 1) := by decide +kernel
theorem dX10_keep_22 : decode cX10_keep 22 = .ok (.getfield 18, 3) := by decide +kernel
theorem dX10_keep_25 : decode cX10_keep 25 = .ok (.iload_n 1, 1) := by decide +kernel
theorem dX10_keep_26 : decode cX10_keep 26 = .ok (.aaload, 1) := by decide +kernel
theorem dX10_keep_27 : decode cX10_keep 27 = .ok (.aload_n 2, 1) := by decide +kernel
theorem dX10_keep_28 : decode cX10_keep 28 = .ok (.invokevirtual 228, 3) := by decide +kernel
theorem dX10_keep_31 : decode cX10_keep 31 = .ok (.aload_n 0, 1) := by decide +kernel
theorem dX10_keep_32 : decode cX10_keep 32 = .ok (.getfield 22, 3) := by decide +kernel
theorem dX10_keep_35 : decode cX10_keep 35 = .ok (.iload_n 1, 1) := by decide +kernel
theorem dX10_keep_36 : decode cX10_keep 36 = .ok (.aload_n 2, 1) := by decide +kernel
theorem dX10_keep_37 : decode cX10_keep 37 = .ok (.invokestatic 302, 3) := by decide +kernel
theorem dX10_keep_40 : decode cX10_keep 40 = .ok (.iastore, 1) := by decide +kernel
theorem dX10_keep_41 : decode cX10_keep 41 = .ok (.aload_n 0, 1) := by decide +kernel
theorem dX10_keep_42 : decode cX10_keep 42 = .ok (.getfield 22, 3) := by decide +kernel
theorem dX10_keep_45 : decode cX10_keep 45 = .ok (.iload_n 1, 1) := by decide +kernel
theorem dX10_keep_46 : decode cX10_keep 46 = .ok (.iaload, 1) := by decide +kernel
theorem dX10_keep_47 : decode cX10_keep 47 = .ok (.ireturn, 1) := by decide +kernel
theorem dX10_kindOf_0 : decode cX10_kindOf 0 = .ok (.aload_n 0, 1) := by decide +kernel
theorem dX10_kindOf_1 : decode cX10_kindOf 1 = .ok (.invokevirtual 201, 3) := by decide +kernel
theorem dX10_kindOf_4 : decode cX10_kindOf 4 = .ok (.ifCond .eq 5, 3) := by decide +kernel
theorem dX10_kindOf_7 : decode cX10_kindOf 7 = .ok (.iconst 0, 1) := by decide +kernel
theorem dX10_kindOf_8 : decode cX10_kindOf 8 = .ok (.ireturn, 1) := by decide +kernel
theorem dX10_kindOf_9 : decode cX10_kindOf 9 = .ok (.aload_n 0, 1) := by decide +kernel
theorem dX10_kindOf_10 : decode cX10_kindOf 10 = .ok (.invokevirtual 166, 3) := by decide +kernel
theorem dX10_kindOf_13 : decode cX10_kindOf 13 = .ok (.lstore_n 1, 1) := by decide +kernel
theorem dX10_kindOf_14 : decode cX10_kindOf 14 = .ok (.lload_n 1, 1) := by decide +kernel
theorem dX10_kindOf_15 : decode cX10_kindOf 15 = .ok (.lconst 1, 1) := by decide +kernel
theorem dX10_kindOf_16 : decode cX10_kindOf 16 = .ok (.lcmp, 1) := by decide +kernel
theorem dX10_kindOf_17 : decode cX10_kindOf 17 = .ok (.ifCond .ne 5, 3) := by decide +kernel
theorem dX10_kindOf_20 : decode cX10_kindOf 20 = .ok (.iconst 4, 1) := by decide +kernel
theorem dX10_kindOf_21 : decode cX10_kindOf 21 = .ok (.ireturn, 1) := by decide +kernel
theorem dX10_kindOf_22 : decode cX10_kindOf 22 = .ok (.lload_n 1, 1) := by decide +kernel
theorem dX10_kindOf_23 : decode cX10_kindOf 23 = .ok (.invokestatic 305, 3) := by decide +kernel
theorem dX10_kindOf_26 : decode cX10_kindOf 26 = .ok (.lload_n 1, 1) := by decide +kernel
theorem dX10_kindOf_27 : decode cX10_kindOf 27 = .ok (.lcmp, 1) := by decide +kernel
theorem dX10_kindOf_28 : decode cX10_kindOf 28 = .ok (.ifCond .ne 5, 3) := by decide +kernel
theorem dX10_kindOf_31 : decode cX10_kindOf 31 = .ok (.iconst 3, 1) := by decide +kernel
theorem dX10_kindOf_32 : decode cX10_kindOf 32 = .ok (.ireturn, 1) := by decide +kernel
theorem dX10_kindOf_33 : decode cX10_kindOf 33 = .ok (.aload_n 0, 1) := by decide +kernel
theorem dX10_kindOf_34 : decode cX10_kindOf 34 = .ok (.invokevirtual 225, 3) := by decide +kernel
theorem dX10_kindOf_37 : decode cX10_kindOf 37 = .ok (.lconst 1, 1) := by decide +kernel
theorem dX10_kindOf_38 : decode cX10_kindOf 38 = .ok (.lcmp, 1) := by decide +kernel
theorem dX10_kindOf_39 : decode cX10_kindOf 39 = .ok (.ifCond .ne 5, 3) := by decide +kernel
theorem dX10_kindOf_42 : decode cX10_kindOf 42 = .ok (.iconst 2, 1) := by decide +kernel
theorem dX10_kindOf_43 : decode cX10_kindOf 43 = .ok (.ireturn, 1) := by decide +kernel
theorem dX10_kindOf_44 : decode cX10_kindOf 44 = .ok (.aload_n 0, 1) := by decide +kernel
theorem dX10_kindOf_45 : decode cX10_kindOf 45 = .ok (.invokevirtual 148, 3) := by decide +kernel
theorem dX10_kindOf_48 : decode cX10_kindOf 48 = .ok (.ifCond .eq 7, 3) := by decide +kernel
theorem dX10_kindOf_51 : decode cX10_kindOf 51 = .ok (.iconst 1, 1) := by decide +kernel
theorem dX10_kindOf_52 : decode cX10_kindOf 52 = .ok (.goto 4, 3) := by decide +kernel
theorem dX10_kindOf_55 : decode cX10_kindOf 55 = .ok (.iconst 0, 1) := by decide +kernel
theorem dX10_kindOf_56 : decode cX10_kindOf 56 = .ok (.ireturn, 1) := by decide +kernel
theorem dX10_isToo_0 : decode cX10_isToo 0 = .ok (.iload_n 1, 1) := by decide +kernel
theorem dX10_isToo_1 : decode cX10_isToo 1 = .ok (.iload_n 0, 1) := by decide +kernel
theorem dX10_isToo_2 : decode cX10_isToo 2 = .ok (.if_icmp .eq 7, 3) := by decide +kernel
theorem dX10_isToo_5 : decode cX10_isToo 5 = .ok (.iload_n 1, 1) := by decide +kernel
theorem dX10_isToo_6 : decode cX10_isToo 6 = .ok (.ifCond .ne 5, 3) := by decide +kernel
theorem dX10_isToo_9 : decode cX10_isToo 9 = .ok (.iconst 1, 1) := by decide +kernel
theorem dX10_isToo_10 : decode cX10_isToo 10 = .ok (.ireturn, 1) := by decide +kernel
theorem dX10_isToo_11 : decode cX10_isToo 11 = .ok (.iload_n 1, 1) := by decide +kernel
theorem dX10_isToo_12 : decode cX10_isToo 12 = .ok (.iconst 2, 1) := by decide +kernel
theorem dX10_isToo_13 : decode cX10_isToo 13 = .ok (.if_icmp .ne 17, 3) := by decide +kernel
theorem dX10_isToo_16 : decode cX10_isToo 16 = .ok (.iload_n 0, 1) := by decide +kernel
theorem dX10_isToo_17 : decode cX10_isToo 17 = .ok (.iconst 3, 1) := by decide +kernel
theorem dX10_isToo_18 : decode cX10_isToo 18 = .ok (.if_icmp .eq 8, 3) := by decide +kernel
theorem dX10_isToo_21 : decode cX10_isToo 21 = .ok (.iload_n 0, 1) := by decide +kernel
theorem dX10_isToo_22 : decode cX10_isToo 22 = .ok (.iconst 4, 1) := by decide +kernel
theorem dX10_isToo_23 : decode cX10_isToo 23 = .ok (.if_icmp .ne 7, 3) := by decide +kernel
theorem dX10_isToo_26 : decode cX10_isToo 26 = .ok (.iconst 1, 1) := by decide +kernel
theorem dX10_isToo_27 : decode cX10_isToo 27 = .ok (.goto 4, 3) := by decide +kernel
theorem dX10_isToo_30 : decode cX10_isToo 30 = .ok (.iconst 0, 1) := by decide +kernel
theorem dX10_isToo_31 : decode cX10_isToo 31 = .ok (.ireturn, 1) := by decide +kernel
theorem dX10_orderOf_0 : decode cX10_orderOf 0 = .ok (.aload_n 0, 1) := by decide +kernel
theorem dX10_orderOf_1 : decode cX10_orderOf 1 = .ok (.invokevirtual 309, 3) := by decide +kernel
theorem dX10_orderOf_4 : decode cX10_orderOf 4 = .ok (.lstore_n 1, 1) := by decide +kernel
theorem dX10_orderOf_5 : decode cX10_orderOf 5 = .ok (.aload_n 0, 1) := by decide +kernel
theorem dX10_orderOf_6 : decode cX10_orderOf 6 = .ok (.getfield 312, 3) := by decide +kernel
theorem dX10_orderOf_9 : decode cX10_orderOf 9 = .ok (.aload_n 0, 1) := by decide +kernel
theorem dX10_orderOf_10 : decode cX10_orderOf 10 = .ok (.getfield 312, 3) := by decide +kernel
theorem dX10_orderOf_13 : decode cX10_orderOf 13 = .ok (.lmul, 1) := by decide +kernel
theorem dX10_orderOf_14 : decode cX10_orderOf 14 = .ok (.lstore_n 3, 1) := by decide +kernel
theorem dX10_orderOf_15 : decode cX10_orderOf 15 = .ok (.lload_n 3, 1) := by decide +kernel
theorem dX10_orderOf_16 : decode cX10_orderOf 16 = .ok (.lload_n 1, 1) := by decide +kernel
theorem dX10_orderOf_17 : decode cX10_orderOf 17 = .ok (.lcmp, 1) := by decide +kernel
theorem dX10_orderOf_18 : decode cX10_orderOf 18 = .ok (.ifCond .ne 5, 3) := by decide +kernel
theorem dX10_orderOf_21 : decode cX10_orderOf 21 = .ok (.iconst 1, 1) := by decide +kernel
theorem dX10_orderOf_22 : decode cX10_orderOf 22 = .ok (.ireturn, 1) := by decide +kernel
theorem dX10_orderOf_23 : decode cX10_orderOf 23 = .ok (.lload_n 3, 1) := by decide +kernel
theorem dX10_orderOf_24 : decode cX10_orderOf 24 = .ok (.lconst 0, 1) := by decide +kernel
theorem dX10_orderOf_25 : decode cX10_orderOf 25 = .ok (.lcmp, 1) := by decide +kernel
theorem dX10_orderOf_26 : decode cX10_orderOf 26 = .ok (.ifCond .ne 5, 3) := by decide +kernel
theorem dX10_orderOf_29 : decode cX10_orderOf 29 = .ok (.iconst 2, 1) := by decide +kernel
theorem dX10_orderOf_30 : decode cX10_orderOf 30 = .ok (.ireturn, 1) := by decide +kernel
theorem dX10_orderOf_31 : decode cX10_orderOf 31 = .ok (.ldc2_w 315, 3) := by decide +kernel
theorem dX10_orderOf_34 : decode cX10_orderOf 34 = .ok (.lload_n 3, 1) := by decide +kernel
theorem dX10_orderOf_35 : decode cX10_orderOf 35 = .ok (.lmul, 1) := by decide +kernel
theorem dX10_orderOf_36 : decode cX10_orderOf 36 = .ok (.lload_n 1, 1) := by decide +kernel
theorem dX10_orderOf_37 : decode cX10_orderOf 37 = .ok (.lcmp, 1) := by decide +kernel
theorem dX10_orderOf_38 : decode cX10_orderOf 38 = .ok (.ifCond .ne 5, 3) := by decide +kernel
theorem dX10_orderOf_41 : decode cX10_orderOf 41 = .ok (.iconst 3, 1) := by decide +kernel
theorem dX10_orderOf_42 : decode cX10_orderOf 42 = .ok (.ireturn, 1) := by decide +kernel
theorem dX10_orderOf_43 : decode cX10_orderOf 43 = .ok (.ldc2_w 317, 3) := by decide +kernel
theorem dX10_orderOf_46 : decode cX10_orderOf 46 = .ok (.lload_n 3, 1) := by decide +kernel
theorem dX10_orderOf_47 : decode cX10_orderOf 47 = .ok (.lmul, 1) := by decide +kernel
theorem dX10_orderOf_48 : decode cX10_orderOf 48 = .ok (.lload_n 1, 1) := by decide +kernel
theorem dX10_orderOf_49 : decode cX10_orderOf 49 = .ok (.lcmp, 1) := by decide +kernel
theorem dX10_orderOf_50 : decode cX10_orderOf 50 = .ok (.ifCond .ne 5, 3) := by decide +kernel
theorem dX10_orderOf_53 : decode cX10_orderOf 53 = .ok (.iconst 4, 1) := by decide +kernel
theorem dX10_orderOf_54 : decode cX10_orderOf 54 = .ok (.ireturn, 1) := by decide +kernel
theorem dX10_orderOf_55 : decode cX10_orderOf 55 = .ok (.ldc2_w 315, 3) := by decide +kernel
theorem dX10_orderOf_58 : decode cX10_orderOf 58 = .ok (.lload_n 3, 1) := by decide +kernel
theorem dX10_orderOf_59 : decode cX10_orderOf 59 = .ok (.lmul, 1) := by decide +kernel
theorem dX10_orderOf_60 : decode cX10_orderOf 60 = .ok (.ldc2_w 319, 3) := by decide +kernel
theorem dX10_orderOf_63 : decode cX10_orderOf 63 = .ok (.lload_n 1, 1) := by decide +kernel
theorem dX10_orderOf_64 : decode cX10_orderOf 64 = .ok (.lmul, 1) := by decide +kernel
theorem dX10_orderOf_65 : decode cX10_orderOf 65 = .ok (.lcmp, 1) := by decide +kernel
theorem dX10_orderOf_66 : decode cX10_orderOf 66 = .ok (.ifCond .ne 6, 3) := by decide +kernel
theorem dX10_orderOf_69 : decode cX10_orderOf 69 = .ok (.bipush 6, 2) := by decide +kernel
theorem dX10_orderOf_71 : decode cX10_orderOf 71 = .ok (.ireturn, 1) := by decide +kernel
theorem dX10_orderOf_72 : decode cX10_orderOf 72 = .ok (.ldc 237, 2) := by decide +kernel
theorem dX10_orderOf_74 : decode cX10_orderOf 74 = .ok (.ireturn, 1) := by decide +kernel
theorem dX10_axisNumber_0 : decode cX10_axisNumber 0 = .ok (.aload_n 0, 1) := by decide +kernel
theorem dX10_axisNumber_1 : decode cX10_axisNumber 1 = .ok (.getfield 321, 3) := by decide +kernel
theorem dX10_axisNumber_4 : decode cX10_axisNumber 4 = .ok (.aload_n 0, 1) := by decide +kernel
theorem dX10_axisNumber_5 : decode cX10_axisNumber 5 = .ok (.getfield 324, 3) := by decide +kernel
theorem dX10_axisNumber_8 : decode cX10_axisNumber 8 = .ok (.invokestatic 327, 3) := by decide +kernel
theorem dX10_axisNumber_11 : decode cX10_axisNumber 11 = .ok (.aload_n 0, 1) := by decide +kernel
theorem dX10_axisNumber_12 : decode cX10_axisNumber 12 = .ok (.getfield 331, 3) := by decide +kernel
theorem dX10_axisNumber_15 : decode cX10_axisNumber 15 = .ok (.invokestatic 327, 3) := by decide +kernel
theorem dX10_axisNumber_18 : decode cX10_axisNumber 18 = .ok (.lstore_n 2, 1) := by decide +kernel
theorem dX10_axisNumber_19 : decode cX10_axisNumber 19 = .ok (.lload_n 2, 1) := by decide +kernel
theorem dX10_axisNumber_20 : decode cX10_axisNumber 20 = .ok (.lconst 0, 1) := by decide +kernel
theorem dX10_axisNumber_21 : decode cX10_axisNumber 21 = .ok (.lcmp, 1) := by decide +kernel
theorem dX10_axisNumber_22 : decode cX10_axisNumber 22 = .ok (.ifCond .ne 6, 3) := by decide +kernel
theorem dX10_axisNumber_25 : decode cX10_axisNumber 25 = .ok (.ldc 237, 2) := by decide +kernel
theorem dX10_axisNumber_27 : decode cX10_axisNumber 27 = .ok (.ireturn, 1) := by decide +kernel
theorem dX10_axisNumber_28 : decode cX10_axisNumber 28 = .ok (.aload_n 0, 1) := by decide +kernel
theorem dX10_axisNumber_29 : decode cX10_axisNumber 29 = .ok (.getfield 321, 3) := by decide +kernel
theorem dX10_axisNumber_32 : decode cX10_axisNumber 32 = .ok (.lconst 0, 1) := by decide +kernel
theorem dX10_axisNumber_33 : decode cX10_axisNumber 33 = .ok (.lcmp, 1) := by decide +kernel
theorem dX10_axisNumber_34 : decode cX10_axisNumber 34 = .ok (.ifCond .eq 10, 3) := by decide +kernel
theorem dX10_axisNumber_37 : decode cX10_axisNumber 37 = .ok (.aload_n 0, 1) := by decide +kernel
theorem dX10_axisNumber_38 : decode cX10_axisNumber 38 = .ok (.getfield 321, 3) := by decide +kernel
theorem dX10_axisNumber_41 : decode cX10_axisNumber 41 = .ok (.goto 23, 3) := by decide +kernel
theorem dX10_axisNumber_44 : decode cX10_axisNumber 44 = .ok (.aload_n 0, 1) := by decide +kernel
theorem dX10_axisNumber_45 : decode cX10_axisNumber 45 = .ok (.getfield 324, 3) := by decide +kernel
theorem dX10_axisNumber_48 : decode cX10_axisNumber 48 = .ok (.lconst 0, 1) := by decide +kernel
theorem dX10_axisNumber_49 : decode cX10_axisNumber 49 = .ok (.lcmp, 1) := by decide +kernel
theorem dX10_axisNumber_50 : decode cX10_axisNumber 50 = .ok (.ifCond .eq 10, 3) := by decide +kernel
theorem dX10_axisNumber_53 : decode cX10_axisNumber 53 = .ok (.aload_n 0, 1) := by decide +kernel
theorem dX10_axisNumber_54 : decode cX10_axisNumber 54 = .ok (.getfield 324, 3) := by decide +kernel
theorem dX10_axisNumber_57 : decode cX10_axisNumber 57 = .ok (.goto 7, 3) := by decide +kernel
theorem dX10_axisNumber_60 : decode cX10_axisNumber 60 = .ok (.aload_n 0, 1) := by decide +kernel
theorem dX10_axisNumber_61 : decode cX10_axisNumber 61 = .ok (.getfield 331, 3) := by decide +kernel
theorem dX10_axisNumber_64 : decode cX10_axisNumber 64 = .ok (.lstore 4, 2) := by decide +kernel
theorem dX10_axisNumber_66 : decode cX10_axisNumber 66 = .ok (.aload_n 0, 1) := by decide +kernel
theorem dX10_axisNumber_67 : decode cX10_axisNumber 67 = .ok (.iload_n 1, 1) := by decide +kernel
theorem dX10_axisNumber_68 : decode cX10_axisNumber 68 = .ok (.iconst 1, 1) := by decide +kernel
theorem dX10_axisNumber_69 : decode cX10_axisNumber 69 = .ok (.iadd, 1) := by decide +kernel
theorem dX10_axisNumber_70 : decode cX10_axisNumber 70 = .ok (.invokevirtual 163, 3) := by decide +kernel
theorem dX10_axisNumber_73 : decode cX10_axisNumber 73 = .ok (.lload_n 2, 1) := by decide +kernel
theorem dX10_axisNumber_74 : decode cX10_axisNumber 74 = .ok (.ldiv, 1) := by decide +kernel
theorem dX10_axisNumber_75 : decode cX10_axisNumber 75 = .ok (.lstore 6, 2) := by decide +kernel
theorem dX10_axisNumber_77 : decode cX10_axisNumber 77 = .ok (.lload 4, 2) := by decide +kernel
theorem dX10_axisNumber_79 : decode cX10_axisNumber 79 = .ok (.lconst 0, 1) := by decide +kernel
theorem dX10_axisNumber_80 : decode cX10_axisNumber 80 = .ok (.lcmp, 1) := by decide +kernel
theorem dX10_axisNumber_81 : decode cX10_axisNumber 81 = .ok (.ifCond .ge 9, 3) := by decide +kernel
theorem dX10_axisNumber_84 : decode cX10_axisNumber 84 = .ok (.lload 6, 2) := by decide +kernel
theorem dX10_axisNumber_86 : decode cX10_axisNumber 86 = .ok (.lneg, 1) := by decide +kernel
theorem dX10_axisNumber_87 : decode cX10_axisNumber 87 = .ok (.goto 5, 3) := by decide +kernel
theorem dX10_axisNumber_90 : decode cX10_axisNumber 90 = .ok (.lload 6, 2) := by decide +kernel
theorem dX10_axisNumber_92 : decode cX10_axisNumber 92 = .ok (.l2i, 1) := by decide +kernel
theorem dX10_axisNumber_93 : decode cX10_axisNumber 93 = .ok (.ireturn, 1) := by decide +kernel
theorem dX10_inLeastTerms_0 : decode cX10_inLeastTerms 0 = .ok (.lload_n 0, 1) := by decide +kernel
theorem dX10_inLeastTerms_1 : decode cX10_inLeastTerms 1 = .ok (.lload_n 2, 1) := by decide +kernel
theorem dX10_inLeastTerms_2 : decode cX10_inLeastTerms 2 = .ok (.invokestatic 327, 3) := by decide +kernel
theorem dX10_inLeastTerms_5 : decode cX10_inLeastTerms 5 = .ok (.lstore 5, 2) := by decide +kernel
theorem dX10_inLeastTerms_7 : decode cX10_inLeastTerms 7 = .ok (.lload 5, 2) := by decide +kernel
theorem dX10_inLeastTerms_9 : decode cX10_inLeastTerms 9 = .ok (.lconst 0, 1) := by decide +kernel
theorem dX10_inLeastTerms_10 : decode cX10_inLeastTerms 10 = .ok (.lcmp, 1) := by decide +kernel
theorem dX10_inLeastTerms_11 : decode cX10_inLeastTerms 11 = .ok (.ifCond .ne 5, 3) := by decide +kernel
theorem dX10_inLeastTerms_14 : decode cX10_inLeastTerms 14 = .ok (.lconst 0, 1) := by decide +kernel
theorem dX10_inLeastTerms_15 : decode cX10_inLeastTerms 15 = .ok (.lreturn, 1) := by decide +kernel
theorem dX10_inLeastTerms_16 : decode cX10_inLeastTerms 16 = .ok (.iload 4, 2) := by decide +kernel
theorem dX10_inLeastTerms_18 : decode cX10_inLeastTerms 18 = .ok (.ifCond .ne 7, 3) := by decide +kernel
theorem dX10_inLeastTerms_21 : decode cX10_inLeastTerms 21 = .ok (.lload_n 0, 1) := by decide +kernel
theorem dX10_inLeastTerms_22 : decode cX10_inLeastTerms 22 = .ok (.goto 4, 3) := by decide +kernel
theorem dX10_inLeastTerms_25 : decode cX10_inLeastTerms 25 = .ok (.lload_n 2, 1) := by decide +kernel
theorem dX10_inLeastTerms_26 : decode cX10_inLeastTerms 26 = .ok (.lload 5, 2) := by decide +kernel
theorem dX10_inLeastTerms_28 : decode cX10_inLeastTerms 28 = .ok (.ldiv, 1) := by decide +kernel
theorem dX10_inLeastTerms_29 : decode cX10_inLeastTerms 29 = .ok (.lreturn, 1) := by decide +kernel
theorem dX10_commonDivisor_0 : decode cX10_commonDivisor 0 = .ok (.lload_n 0, 1) := by decide +kernel
theorem dX10_commonDivisor_1 : decode cX10_commonDivisor 1 = .ok (.invokestatic 334, 3) := by decide +kernel
theorem dX10_commonDivisor_4 : decode cX10_commonDivisor 4 = .ok (.lstore 4, 2) := by decide +kernel
theorem dX10_commonDivisor_6 : decode cX10_commonDivisor 6 = .ok (.lload_n 2, 1) := by decide +kernel
theorem dX10_commonDivisor_7 : decode cX10_commonDivisor 7 = .ok (.invokestatic 334, 3) := by decide +kernel
theorem dX10_commonDivisor_10 : decode cX10_commonDivisor 10 = .ok (.lstore 6, 2) := by decide +kernel
theorem dX10_commonDivisor_12 : decode cX10_commonDivisor 12 = .ok (.iconst 0, 1) := by decide +kernel
theorem dX10_commonDivisor_13 : decode cX10_commonDivisor 13 = .ok (.istore 8, 2) := by decide +kernel
theorem dX10_commonDivisor_15 : decode cX10_commonDivisor 15 = .ok (.iload 8, 2) := by decide +kernel
theorem dX10_commonDivisor_17 : decode cX10_commonDivisor 17 = .ok (.ldc 241, 2) := by decide +kernel
theorem dX10_commonDivisor_19 : decode cX10_commonDivisor 19 = .ok (.if_icmp .ge 31, 3) := by decide +kernel
theorem dX10_commonDivisor_22 : decode cX10_commonDivisor 22 = .ok (.lload 6, 2) := by decide +kernel
theorem dX10_commonDivisor_24 : decode cX10_commonDivisor 24 = .ok (.lconst 0, 1) := by decide +kernel
theorem dX10_commonDivisor_25 : decode cX10_commonDivisor 25 = .ok (.lcmp, 1) := by decide +kernel
theorem dX10_commonDivisor_26 : decode cX10_commonDivisor 26 = .ok (.ifCond .eq 24, 3) := by decide +kernel
theorem dX10_commonDivisor_29 : decode cX10_commonDivisor 29 = .ok (.lload 4, 2) := by decide +kernel
theorem dX10_commonDivisor_31 : decode cX10_commonDivisor 31 = .ok (.lload 6, 2) := by decide +kernel
theorem dX10_commonDivisor_33 : decode cX10_commonDivisor 33 = .ok (.lrem, 1) := by decide +kernel
theorem dX10_commonDivisor_34 : decode cX10_commonDivisor 34 = .ok (.lstore 9, 2) := by decide +kernel
theorem dX10_commonDivisor_36 : decode cX10_commonDivisor 36 = .ok (.lload 6, 2) := by decide +kernel
theorem dX10_commonDivisor_38 : decode cX10_commonDivisor 38 = .ok (.lstore 4, 2) := by decide +kernel
theorem dX10_commonDivisor_40 : decode cX10_commonDivisor 40 = .ok (.lload 9, 2) := by decide +kernel
theorem dX10_commonDivisor_42 : decode cX10_commonDivisor 42 = .ok (.lstore 6, 2) := by decide +kernel
theorem dX10_commonDivisor_44 : decode cX10_commonDivisor 44 = .ok (.iinc 8 1, 3) := by decide +kernel
theorem dX10_commonDivisor_47 : decode cX10_commonDivisor 47 = .ok (.goto (-32), 3) := by decide +kernel
theorem dX10_commonDivisor_50 : decode cX10_commonDivisor 50 = .ok (.lload 4, 2) := by decide +kernel
theorem dX10_commonDivisor_52 : decode cX10_commonDivisor 52 = .ok (.lreturn, 1) := by decide +kernel
theorem dX10_leastPrime_0 : decode cX10_leastPrime 0 = .ok (.lload_n 0, 1) := by decide +kernel
theorem dX10_leastPrime_1 : decode cX10_leastPrime 1 = .ok (.ldc2_w 317, 3) := by decide +kernel
theorem dX10_leastPrime_4 : decode cX10_leastPrime 4 = .ok (.lrem, 1) := by decide +kernel
theorem dX10_leastPrime_5 : decode cX10_leastPrime 5 = .ok (.lconst 0, 1) := by decide +kernel
theorem dX10_leastPrime_6 : decode cX10_leastPrime 6 = .ok (.lcmp, 1) := by decide +kernel
theorem dX10_leastPrime_7 : decode cX10_leastPrime 7 = .ok (.ifCond .ne 7, 3) := by decide +kernel
theorem dX10_leastPrime_10 : decode cX10_leastPrime 10 = .ok (.ldc2_w 317, 3) := by decide +kernel
theorem dX10_leastPrime_13 : decode cX10_leastPrime 13 = .ok (.lreturn, 1) := by decide +kernel
theorem dX10_leastPrime_14 : decode cX10_leastPrime 14 = .ok (.ldc2_w 319, 3) := by decide +kernel
theorem dX10_leastPrime_17 : decode cX10_leastPrime 17 = .ok (.lstore_n 2, 1) := by decide +kernel
theorem dX10_leastPrime_18 : decode cX10_leastPrime 18 = .ok (.lload_n 2, 1) := by decide +kernel
theorem dX10_leastPrime_19 : decode cX10_leastPrime 19 = .ok (.lload_n 2, 1) := by decide +kernel
theorem dX10_leastPrime_20 : decode cX10_leastPrime 20 = .ok (.lmul, 1) := by decide +kernel
theorem dX10_leastPrime_21 : decode cX10_leastPrime 21 = .ok (.lload_n 0, 1) := by decide +kernel
theorem dX10_leastPrime_22 : decode cX10_leastPrime 22 = .ok (.lcmp, 1) := by decide +kernel
theorem dX10_leastPrime_23 : decode cX10_leastPrime 23 = .ok (.ifCond .gt 22, 3) := by decide +kernel
theorem dX10_leastPrime_26 : decode cX10_leastPrime 26 = .ok (.lload_n 0, 1) := by decide +kernel
theorem dX10_leastPrime_27 : decode cX10_leastPrime 27 = .ok (.lload_n 2, 1) := by decide +kernel
theorem dX10_leastPrime_28 : decode cX10_leastPrime 28 = .ok (.lrem, 1) := by decide +kernel
theorem dX10_leastPrime_29 : decode cX10_leastPrime 29 = .ok (.lconst 0, 1) := by decide +kernel
theorem dX10_leastPrime_30 : decode cX10_leastPrime 30 = .ok (.lcmp, 1) := by decide +kernel
theorem dX10_leastPrime_31 : decode cX10_leastPrime 31 = .ok (.ifCond .ne 5, 3) := by decide +kernel
theorem dX10_leastPrime_34 : decode cX10_leastPrime 34 = .ok (.lload_n 2, 1) := by decide +kernel
theorem dX10_leastPrime_35 : decode cX10_leastPrime 35 = .ok (.lreturn, 1) := by decide +kernel
theorem dX10_leastPrime_36 : decode cX10_leastPrime 36 = .ok (.lload_n 2, 1) := by decide +kernel
theorem dX10_leastPrime_37 : decode cX10_leastPrime 37 = .ok (.ldc2_w 317, 3) := by decide +kernel
theorem dX10_leastPrime_40 : decode cX10_leastPrime 40 = .ok (.ladd, 1) := by decide +kernel
theorem dX10_leastPrime_41 : decode cX10_leastPrime 41 = .ok (.lstore_n 2, 1) := by decide +kernel
theorem dX10_leastPrime_42 : decode cX10_leastPrime 42 = .ok (.goto (-24), 3) := by decide +kernel
theorem dX10_leastPrime_45 : decode cX10_leastPrime 45 = .ok (.lload_n 0, 1) := by decide +kernel
theorem dX10_leastPrime_46 : decode cX10_leastPrime 46 = .ok (.lreturn, 1) := by decide +kernel
theorem dX10_withoutFactor_0 : decode cX10_withoutFactor 0 = .ok (.iload_n 2, 1) := by decide +kernel
theorem dX10_withoutFactor_1 : decode cX10_withoutFactor 1 = .ok (.ifCond .ne 5, 3) := by decide +kernel
theorem dX10_withoutFactor_4 : decode cX10_withoutFactor 4 = .ok (.lload_n 0, 1) := by decide +kernel
theorem dX10_withoutFactor_5 : decode cX10_withoutFactor 5 = .ok (.lreturn, 1) := by decide +kernel
theorem dX10_withoutFactor_6 : decode cX10_withoutFactor 6 = .ok (.lload_n 0, 1) := by decide +kernel
theorem dX10_withoutFactor_7 : decode cX10_withoutFactor 7 = .ok (.lstore_n 3, 1) := by decide +kernel
theorem dX10_withoutFactor_8 : decode cX10_withoutFactor 8 = .ok (.iconst 0, 1) := by decide +kernel
theorem dX10_withoutFactor_9 : decode cX10_withoutFactor 9 = .ok (.istore 5, 2) := by decide +kernel
theorem dX10_withoutFactor_11 : decode cX10_withoutFactor 11 = .ok (.iload 5, 2) := by decide +kernel
theorem dX10_withoutFactor_13 : decode cX10_withoutFactor 13 = .ok (.bipush 64, 2) := by decide +kernel
theorem dX10_withoutFactor_15 : decode cX10_withoutFactor 15 = .ok (.if_icmp .ge 29, 3) := by decide +kernel
theorem dX10_withoutFactor_18 : decode cX10_withoutFactor 18 = .ok (.lload_n 3, 1) := by decide +kernel
theorem dX10_withoutFactor_19 : decode cX10_withoutFactor 19 = .ok (.lconst 0, 1) := by decide +kernel
theorem dX10_withoutFactor_20 : decode cX10_withoutFactor 20 = .ok (.lcmp, 1) := by decide +kernel
theorem dX10_withoutFactor_21 : decode cX10_withoutFactor 21 = .ok (.ifCond .eq 23, 3) := by decide +kernel
theorem dX10_withoutFactor_24 : decode cX10_withoutFactor 24 = .ok (.lload_n 3, 1) := by decide +kernel
theorem dX10_withoutFactor_25 : decode cX10_withoutFactor 25 = .ok (.iload_n 2, 1) := by decide +kernel
theorem dX10_withoutFactor_26 : decode cX10_withoutFactor 26 = .ok (.i2l, 1) := by decide +kernel
theorem dX10_withoutFactor_27 : decode cX10_withoutFactor 27 = .ok (.lrem, 1) := by decide +kernel
theorem dX10_withoutFactor_28 : decode cX10_withoutFactor 28 = .ok (.lconst 0, 1) := by decide +kernel
theorem dX10_withoutFactor_29 : decode cX10_withoutFactor 29 = .ok (.lcmp, 1) := by decide +kernel
theorem dX10_withoutFactor_30 : decode cX10_withoutFactor 30 = .ok (.ifCond .ne 14, 3) := by decide +kernel
theorem dX10_withoutFactor_33 : decode cX10_withoutFactor 33 = .ok (.lload_n 3, 1) := by decide +kernel
theorem dX10_withoutFactor_34 : decode cX10_withoutFactor 34 = .ok (.iload_n 2, 1) := by decide +kernel
theorem dX10_withoutFactor_35 : decode cX10_withoutFactor 35 = .ok (.i2l, 1) := by decide +kernel
theorem dX10_withoutFactor_36 : decode cX10_withoutFactor 36 = .ok (.ldiv, 1) := by decide +kernel
theorem dX10_withoutFactor_37 : decode cX10_withoutFactor 37 = .ok (.lstore_n 3, 1) := by decide +kernel
theorem dX10_withoutFactor_38 : decode cX10_withoutFactor 38 = .ok (.iinc 5 1, 3) := by decide +kernel
theorem dX10_withoutFactor_41 : decode cX10_withoutFactor 41 = .ok (.goto (-30), 3) := by decide +kernel
theorem dX10_withoutFactor_44 : decode cX10_withoutFactor 44 = .ok (.lload_n 3, 1) := by decide +kernel
theorem dX10_withoutFactor_45 : decode cX10_withoutFactor 45 = .ok (.lreturn, 1) := by decide +kernel
theorem dX10_sumOfDivisors_0 : decode cX10_sumOfDivisors 0 = .ok (.iload_n 1, 1) := by decide +kernel
theorem dX10_sumOfDivisors_1 : decode cX10_sumOfDivisors 1 = .ok (.ifCond .ne 5, 3) := by decide +kernel
theorem dX10_sumOfDivisors_4 : decode cX10_sumOfDivisors 4 = .ok (.iconst 0, 1) := by decide +kernel
theorem dX10_sumOfDivisors_5 : decode cX10_sumOfDivisors 5 = .ok (.ireturn, 1) := by decide +kernel
theorem dX10_sumOfDivisors_6 : decode cX10_sumOfDivisors 6 = .ok (.iconst 0, 1) := by decide +kernel
theorem dX10_sumOfDivisors_7 : decode cX10_sumOfDivisors 7 = .ok (.istore_n 2, 1) := by decide +kernel
theorem dX10_sumOfDivisors_8 : decode cX10_sumOfDivisors 8 = .ok (.iconst 1, 1) := by decide +kernel
theorem dX10_sumOfDivisors_9 : decode cX10_sumOfDivisors 9 = .ok (.istore_n 3, 1) := by decide +kernel
theorem dX10_sumOfDivisors_10 : decode cX10_sumOfDivisors 10 = .ok (.iload_n 3, 1) := by decide +kernel
theorem dX10_sumOfDivisors_11 : decode cX10_sumOfDivisors 11 = .ok (.iload_n 3, 1) := by decide +kernel
theorem dX10_sumOfDivisors_12 : decode cX10_sumOfDivisors 12 = .ok (.imul, 1) := by decide +kernel
theorem dX10_sumOfDivisors_13 : decode cX10_sumOfDivisors 13 = .ok (.iload_n 0, 1) := by decide +kernel
theorem dX10_sumOfDivisors_14 : decode cX10_sumOfDivisors 14 = .ok (.if_icmp .gt 51, 3) := by decide +kernel
theorem dX10_sumOfDivisors_17 : decode cX10_sumOfDivisors 17 = .ok (.iload_n 0, 1) := by decide +kernel
theorem dX10_sumOfDivisors_18 : decode cX10_sumOfDivisors 18 = .ok (.iload_n 3, 1) := by decide +kernel
theorem dX10_sumOfDivisors_19 : decode cX10_sumOfDivisors 19 = .ok (.irem, 1) := by decide +kernel
theorem dX10_sumOfDivisors_20 : decode cX10_sumOfDivisors 20 = .ok (.ifCond .eq 6, 3) := by decide +kernel
theorem dX10_sumOfDivisors_23 : decode cX10_sumOfDivisors 23 = .ok (.goto 36, 3) := by decide +kernel
theorem dX10_sumOfDivisors_26 : decode cX10_sumOfDivisors 26 = .ok (.iload_n 0, 1) := by decide +kernel
theorem dX10_sumOfDivisors_27 : decode cX10_sumOfDivisors 27 = .ok (.iload_n 3, 1) := by decide +kernel
theorem dX10_sumOfDivisors_28 : decode cX10_sumOfDivisors 28 = .ok (.idiv, 1) := by decide +kernel
theorem dX10_sumOfDivisors_29 : decode cX10_sumOfDivisors 29 = .ok (.istore 4, 2) := by decide +kernel
theorem dX10_sumOfDivisors_31 : decode cX10_sumOfDivisors 31 = .ok (.iload_n 3, 1) := by decide +kernel
theorem dX10_sumOfDivisors_32 : decode cX10_sumOfDivisors 32 = .ok (.iload_n 1, 1) := by decide +kernel
theorem dX10_sumOfDivisors_33 : decode cX10_sumOfDivisors 33 = .ok (.irem, 1) := by decide +kernel
theorem dX10_sumOfDivisors_34 : decode cX10_sumOfDivisors 34 = .ok (.ifCond .eq 7, 3) := by decide +kernel
theorem dX10_sumOfDivisors_37 : decode cX10_sumOfDivisors 37 = .ok (.iload_n 2, 1) := by decide +kernel
theorem dX10_sumOfDivisors_38 : decode cX10_sumOfDivisors 38 = .ok (.iload_n 3, 1) := by decide +kernel
theorem dX10_sumOfDivisors_39 : decode cX10_sumOfDivisors 39 = .ok (.iadd, 1) := by decide +kernel
theorem dX10_sumOfDivisors_40 : decode cX10_sumOfDivisors 40 = .ok (.istore_n 2, 1) := by decide +kernel
theorem dX10_sumOfDivisors_41 : decode cX10_sumOfDivisors 41 = .ok (.iload 4, 2) := by decide +kernel
theorem dX10_sumOfDivisors_43 : decode cX10_sumOfDivisors 43 = .ok (.iload_n 3, 1) := by decide +kernel
theorem dX10_sumOfDivisors_44 : decode cX10_sumOfDivisors 44 = .ok (.if_icmp .eq 15, 3) := by decide +kernel
theorem dX10_sumOfDivisors_47 : decode cX10_sumOfDivisors 47 = .ok (.iload 4, 2) := by decide +kernel
theorem dX10_sumOfDivisors_49 : decode cX10_sumOfDivisors 49 = .ok (.iload_n 1, 1) := by decide +kernel
theorem dX10_sumOfDivisors_50 : decode cX10_sumOfDivisors 50 = .ok (.irem, 1) := by decide +kernel
theorem dX10_sumOfDivisors_51 : decode cX10_sumOfDivisors 51 = .ok (.ifCond .eq 8, 3) := by decide +kernel
theorem dX10_sumOfDivisors_54 : decode cX10_sumOfDivisors 54 = .ok (.iload_n 2, 1) := by decide +kernel
theorem dX10_sumOfDivisors_55 : decode cX10_sumOfDivisors 55 = .ok (.iload 4, 2) := by decide +kernel
theorem dX10_sumOfDivisors_57 : decode cX10_sumOfDivisors 57 = .ok (.iadd, 1) := by decide +kernel
theorem dX10_sumOfDivisors_58 : decode cX10_sumOfDivisors 58 = .ok (.istore_n 2, 1) := by decide +kernel
theorem dX10_sumOfDivisors_59 : decode cX10_sumOfDivisors 59 = .ok (.iinc 3 1, 3) := by decide +kernel
theorem dX10_sumOfDivisors_62 : decode cX10_sumOfDivisors 62 = .ok (.goto (-52), 3) := by decide +kernel
theorem dX10_sumOfDivisors_65 : decode cX10_sumOfDivisors 65 = .ok (.iload_n 2, 1) := by decide +kernel
theorem dX10_sumOfDivisors_66 : decode cX10_sumOfDivisors 66 = .ok (.ireturn, 1) := by decide +kernel
theorem dX11_init_0 : decode cX11_init 0 = .ok (.aload_n 0, 1) := by decide +kernel
theorem dX11_init_1 : decode cX11_init 1 = .ok (.invokespecial 1, 3) := by decide +kernel
theorem dX11_init_4 : decode cX11_init 4 = .ok (.aload_n 0, 1) := by decide +kernel
theorem dX11_init_5 : decode cX11_init 5 = .ok (.bipush 20, 2) := by decide +kernel
theorem dX11_init_7 : decode cX11_init 7 = .ok (.newarray .boolean, 2) := by decide +kernel
theorem dX11_init_9 : decode cX11_init 9 = .ok (.putfield 7, 3) := by decide +kernel
theorem dX11_init_12 : decode cX11_init 12 = .ok (.aload_n 0, 1) := by decide +kernel
theorem dX11_init_13 : decode cX11_init 13 = .ok (.bipush 80, 2) := by decide +kernel
theorem dX11_init_15 : decode cX11_init 15 = .ok (.newarray .long, 2) := by decide +kernel
theorem dX11_init_17 : decode cX11_init 17 = .ok (.putfield 13, 3) := by decide +kernel
theorem dX11_init_20 : decode cX11_init 20 = .ok (.aload_n 0, 1) := by decide +kernel
theorem dX11_init_21 : decode cX11_init 21 = .ok (.bipush 8, 2) := by decide +kernel
theorem dX11_init_23 : decode cX11_init 23 = .ok (.newarray .int, 2) := by decide +kernel
theorem dX11_init_25 : decode cX11_init 25 = .ok (.putfield 17, 3) := by decide +kernel
theorem dX11_init_28 : decode cX11_init 28 = .ok (.aload_n 0, 1) := by decide +kernel
theorem dX11_init_29 : decode cX11_init 29 = .ok (.bipush 8, 2) := by decide +kernel
theorem dX11_init_31 : decode cX11_init 31 = .ok (.newarray .int, 2) := by decide +kernel
theorem dX11_init_33 : decode cX11_init 33 = .ok (.putfield 21, 3) := by decide +kernel
theorem dX11_init_36 : decode cX11_init 36 = .ok (.aload_n 0, 1) := by decide +kernel
theorem dX11_init_37 : decode cX11_init 37 = .ok (.sipush 800, 3) := by decide +kernel
theorem dX11_init_40 : decode cX11_init 40 = .ok (.newarray .long, 2) := by decide +kernel
theorem dX11_init_42 : decode cX11_init 42 = .ok (.putfield 24, 3) := by decide +kernel
theorem dX11_init_45 : decode cX11_init 45 = .ok (.aload_n 0, 1) := by decide +kernel
theorem dX11_init_46 : decode cX11_init 46 = .ok (.bipush 100, 2) := by decide +kernel
theorem dX11_init_48 : decode cX11_init 48 = .ok (.newarray .long, 2) := by decide +kernel
theorem dX11_init_50 : decode cX11_init 50 = .ok (.putfield 27, 3) := by decide +kernel
theorem dX11_init_53 : decode cX11_init 53 = .ok (.aload_n 0, 1) := by decide +kernel
theorem dX11_init_54 : decode cX11_init 54 = .ok (.bipush 16, 2) := by decide +kernel
theorem dX11_init_56 : decode cX11_init 56 = .ok (.newarray .int, 2) := by decide +kernel
theorem dX11_init_58 : decode cX11_init 58 = .ok (.putfield 30, 3) := by decide +kernel
theorem dX11_init_61 : decode cX11_init 61 = .ok (.aload_n 0, 1) := by decide +kernel
theorem dX11_init_62 : decode cX11_init 62 = .ok (.bipush 80, 2) := by decide +kernel
theorem dX11_init_64 : decode cX11_init 64 = .ok (.newarray .long, 2) := by decide +kernel
theorem dX11_init_66 : decode cX11_init 66 = .ok (.putfield 33, 3) := by decide +kernel
theorem dX11_init_69 : decode cX11_init 69 = .ok (.aload_n 0, 1) := by decide +kernel
theorem dX11_init_70 : decode cX11_init 70 = .ok (.bipush 9, 2) := by decide +kernel
theorem dX11_init_72 : decode cX11_init 72 = .ok (.newarray .long, 2) := by decide +kernel
theorem dX11_init_74 : decode cX11_init 74 = .ok (.putfield 36, 3) := by decide +kernel
theorem dX11_init_77 : decode cX11_init 77 = .ok (.return_, 1) := by decide +kernel
theorem dX11_in_0 : decode cX11_in 0 = .ok (.lload_n 0, 1) := by decide +kernel
theorem dX11_in_1 : decode cX11_in 1 = .ok (.lload_n 2, 1) := by decide +kernel
theorem dX11_in_2 : decode cX11_in 2 = .ok (.lcmp, 1) := by decide +kernel
theorem dX11_in_3 : decode cX11_in 3 = .ok (.ifCond .lt 14, 3) := by decide +kernel
theorem dX11_in_6 : decode cX11_in 6 = .ok (.lload_n 0, 1) := by decide +kernel
theorem dX11_in_7 : decode cX11_in 7 = .ok (.lload 4, 2) := by decide +kernel
theorem dX11_in_9 : decode cX11_in 9 = .ok (.lcmp, 1) := by decide +kernel
theorem dX11_in_10 : decode cX11_in 10 = .ok (.ifCond .gt 7, 3) := by decide +kernel
theorem dX11_in_13 : decode cX11_in 13 = .ok (.iconst 1, 1) := by decide +kernel
theorem dX11_in_14 : decode cX11_in 14 = .ok (.goto 4, 3) := by decide +kernel
theorem dX11_in_17 : decode cX11_in 17 = .ok (.iconst 0, 1) := by decide +kernel
theorem dX11_in_18 : decode cX11_in 18 = .ok (.ireturn, 1) := by decide +kernel
theorem dX11_finds_0 : decode cX11_finds 0 = .ok (.aload_n 0, 1) := by decide +kernel
theorem dX11_finds_1 : decode cX11_finds 1 = .ok (.iload_n 1, 1) := by decide +kernel
theorem dX11_finds_2 : decode cX11_finds 2 = .ok (.putfield 39, 3) := by decide +kernel
theorem dX11_finds_5 : decode cX11_finds 5 = .ok (.ldc 43, 2) := by decide +kernel
theorem dX11_finds_7 : decode cX11_finds 7 = .ok (.iload_n 1, 1) := by decide +kernel
theorem dX11_finds_8 : decode cX11_finds 8 = .ok (.isub, 1) := by decide +kernel
theorem dX11_finds_9 : decode cX11_finds 9 = .ok (.ireturn, 1) := by decide +kernel
theorem dX11_well_0 : decode cX11_well 0 = .ok (.aload_n 0, 1) := by decide +kernel
theorem dX11_well_1 : decode cX11_well 1 = .ok (.iconst 0, 1) := by decide +kernel
theorem dX11_well_2 : decode cX11_well 2 = .ok (.putfield 39, 3) := by decide +kernel
theorem dX11_well_5 : decode cX11_well 5 = .ok (.iload_n 1, 1) := by decide +kernel
theorem dX11_well_6 : decode cX11_well 6 = .ok (.ireturn, 1) := by decide +kernel
theorem dX11_isTray_0 : decode cX11_isTray 0 = .ok (.iload_n 0, 1) := by decide +kernel
theorem dX11_isTray_1 : decode cX11_isTray 1 = .ok (.i2l, 1) := by decide +kernel
theorem dX11_isTray_2 : decode cX11_isTray 2 = .ok (.lconst 0, 1) := by decide +kernel
theorem dX11_isTray_3 : decode cX11_isTray 3 = .ok (.ldc2_w 44, 3) := by decide +kernel
theorem dX11_isTray_6 : decode cX11_isTray 6 = .ok (.invokestatic 46, 3) := by decide +kernel
theorem dX11_isTray_9 : decode cX11_isTray 9 = .ok (.ireturn, 1) := by decide +kernel
theorem dX11_tray_0 : decode cX11_tray 0 = .ok (.iload_n 1, 1) := by decide +kernel
theorem dX11_tray_1 : decode cX11_tray 1 = .ok (.invokestatic 50, 3) := by decide +kernel
theorem dX11_tray_4 : decode cX11_tray 4 = .ok (.ifCond .eq 21, 3) := by decide +kernel
theorem dX11_tray_7 : decode cX11_tray 7 = .ok (.iload_n 2, 1) := by decide +kernel
theorem dX11_tray_8 : decode cX11_tray 8 = .ok (.i2l, 1) := by decide +kernel
theorem dX11_tray_9 : decode cX11_tray 9 = .ok (.lconst 0, 1) := by decide +kernel
theorem dX11_tray_10 : decode cX11_tray 10 = .ok (.ldc2_w 54, 3) := by decide +kernel
theorem dX11_tray_13 : decode cX11_tray 13 = .ok (.invokestatic 46, 3) := by decide +kernel
theorem dX11_tray_16 : decode cX11_tray 16 = .ok (.ifCond .eq 9, 3) := by decide +kernel
theorem dX11_tray_19 : decode cX11_tray 19 = .ok (.iload_n 3, 1) := by decide +kernel
theorem dX11_tray_20 : decode cX11_tray 20 = .ok (.bipush 100, 2) := by decide +kernel
theorem dX11_tray_22 : decode cX11_tray 22 = .ok (.if_icmp .le 6, 3) := by decide +kernel
theorem dX11_tray_25 : decode cX11_tray 25 = .ok (.ldc 56, 2) := by decide +kernel
theorem dX11_tray_27 : decode cX11_tray 27 = .ok (.ireturn, 1) := by decide +kernel
theorem dX11_tray_28 : decode cX11_tray 28 = .ok (.iload_n 3, 1) := by decide +kernel
theorem dX11_tray_29 : decode cX11_tray 29 = .ok (.ifCond .ge 9, 3) := by decide +kernel
theorem dX11_tray_32 : decode cX11_tray 32 = .ok (.aload_n 0, 1) := by decide +kernel
theorem dX11_tray_33 : decode cX11_tray 33 = .ok (.iconst 4, 1) := by decide +kernel
theorem dX11_tray_34 : decode cX11_tray 34 = .ok (.invokevirtual 57, 3) := by decide +kernel
theorem dX11_tray_37 : decode cX11_tray 37 = .ok (.ireturn, 1) := by decide +kernel
theorem dX11_tray_38 : decode cX11_tray 38 = .ok (.aload_n 0, 1) := by decide +kernel
theorem dX11_tray_39 : decode cX11_tray 39 = .ok (.getfield 17, 3) := by decide +kernel
theorem dX11_tray_42 : decode cX11_tray 42 = .ok (.iload_n 1, 1) := by decide +kernel
theorem dX11_tray_43 : decode cX11_tray 43 = .ok (.iload_n 2, 1) := by decide +kernel
theorem dX11_tray_44 : decode cX11_tray 44 = .ok (.iconst 1, 1) := by decide +kernel
theorem dX11_tray_45 : decode cX11_tray 45 = .ok (.iadd, 1) := by decide +kernel
theorem dX11_tray_46 : decode cX11_tray 46 = .ok (.iastore, 1) := by decide +kernel
theorem dX11_tray_47 : decode cX11_tray 47 = .ok (.aload_n 0, 1) := by decide +kernel
theorem dX11_tray_48 : decode cX11_tray 48 = .ok (.getfield 21, 3) := by decide +kernel
theorem dX11_tray_51 : decode cX11_tray 51 = .ok (.iload_n 1, 1) := by decide +kernel
theorem dX11_tray_52 : decode cX11_tray 52 = .ok (.iload_n 3, 1) := by decide +kernel
theorem dX11_tray_53 : decode cX11_tray 53 = .ok (.iastore, 1) := by decide +kernel
theorem dX11_tray_54 : decode cX11_tray 54 = .ok (.iconst 0, 1) := by decide +kernel
theorem dX11_tray_55 : decode cX11_tray 55 = .ok (.istore 4, 2) := by decide +kernel
theorem dX11_tray_57 : decode cX11_tray 57 = .ok (.iload 4, 2) := by decide +kernel
theorem dX11_tray_59 : decode cX11_tray 59 = .ok (.iload_n 3, 1) := by decide +kernel
theorem dX11_tray_60 : decode cX11_tray 60 = .ok (.if_icmp .ge 22, 3) := by decide +kernel
theorem dX11_tray_63 : decode cX11_tray 63 = .ok (.aload_n 0, 1) := by decide +kernel
theorem dX11_tray_64 : decode cX11_tray 64 = .ok (.getfield 24, 3) := by decide +kernel
theorem dX11_tray_67 : decode cX11_tray 67 = .ok (.bipush 100, 2) := by decide +kernel
theorem dX11_tray_69 : decode cX11_tray 69 = .ok (.iload_n 1, 1) := by decide +kernel
theorem dX11_tray_70 : decode cX11_tray 70 = .ok (.imul, 1) := by decide +kernel
theorem dX11_tray_71 : decode cX11_tray 71 = .ok (.iload 4, 2) := by decide +kernel
theorem dX11_tray_73 : decode cX11_tray 73 = .ok (.iadd, 1) := by decide +kernel
theorem dX11_tray_74 : decode cX11_tray 74 = .ok (.lconst 0, 1) := by decide +kernel
theorem dX11_tray_75 : decode cX11_tray 75 = .ok (.lastore, 1) := by decide +kernel
theorem dX11_tray_76 : decode cX11_tray 76 = .ok (.iinc 4 1, 3) := by decide +kernel
theorem dX11_tray_79 : decode cX11_tray 79 = .ok (.goto (-22), 3) := by decide +kernel
theorem dX11_tray_82 : decode cX11_tray 82 = .ok (.aload_n 0, 1) := by decide +kernel
theorem dX11_tray_83 : decode cX11_tray 83 = .ok (.iload_n 3, 1) := by decide +kernel
theorem dX11_tray_84 : decode cX11_tray 84 = .ok (.invokevirtual 61, 3) := by decide +kernel
theorem dX11_tray_87 : decode cX11_tray 87 = .ok (.ireturn, 1) := by decide +kernel
theorem dX11_set_0 : decode cX11_set 0 = .ok (.iload_n 1, 1) := by decide +kernel
theorem dX11_set_1 : decode cX11_set 1 = .ok (.invokestatic 50, 3) := by decide +kernel
theorem dX11_set_4 : decode cX11_set 4 = .ok (.ifCond .ne 7, 3) := by decide +kernel
theorem dX11_set_7 : decode cX11_set 7 = .ok (.ldc2_w 64, 3) := by decide +kernel
theorem dX11_set_10 : decode cX11_set 10 = .ok (.lreturn, 1) := by decide +kernel
theorem dX11_set_11 : decode cX11_set 11 = .ok (.aload_n 0, 1) := by decide +kernel
theorem dX11_set_12 : decode cX11_set 12 = .ok (.getfield 17, 3) := by decide +kernel
theorem dX11_set_15 : decode cX11_set 15 = .ok (.iload_n 1, 1) := by decide +kernel
theorem dX11_set_16 : decode cX11_set 16 = .ok (.iaload, 1) := by decide +kernel
theorem dX11_set_17 : decode cX11_set 17 = .ok (.ifCond .ne 10, 3) := by decide +kernel
theorem dX11_set_20 : decode cX11_set 20 = .ok (.aload_n 0, 1) := by decide +kernel
theorem dX11_set_21 : decode cX11_set 21 = .ok (.iconst 1, 1) := by decide +kernel
theorem dX11_set_22 : decode cX11_set 22 = .ok (.invokevirtual 57, 3) := by decide +kernel
theorem dX11_set_25 : decode cX11_set 25 = .ok (.i2l, 1) := by decide +kernel
theorem dX11_set_26 : decode cX11_set 26 = .ok (.lreturn, 1) := by decide +kernel
theorem dX11_set_27 : decode cX11_set 27 = .ok (.iload_n 2, 1) := by decide +kernel
theorem dX11_set_28 : decode cX11_set 28 = .ok (.i2l, 1) := by decide +kernel
theorem dX11_set_29 : decode cX11_set 29 = .ok (.lconst 0, 1) := by decide +kernel
theorem dX11_set_30 : decode cX11_set 30 = .ok (.aload_n 0, 1) := by decide +kernel
theorem dX11_set_31 : decode cX11_set 31 = .ok (.getfield 21, 3) := by decide +kernel
theorem dX11_set_34 : decode cX11_set 34 = .ok (.iload_n 1, 1) := by decide +kernel
theorem dX11_set_35 : decode cX11_set 35 = .ok (.iaload, 1) := by decide +kernel
theorem dX11_set_36 : decode cX11_set 36 = .ok (.iconst 1, 1) := by decide +kernel
theorem dX11_set_37 : decode cX11_set 37 = .ok (.isub, 1) := by decide +kernel
theorem dX11_set_38 : decode cX11_set 38 = .ok (.i2l, 1) := by decide +kernel
theorem dX11_set_39 : decode cX11_set 39 = .ok (.invokestatic 46, 3) := by decide +kernel
theorem dX11_set_42 : decode cX11_set 42 = .ok (.ifCond .ne 10, 3) := by decide +kernel
theorem dX11_set_45 : decode cX11_set 45 = .ok (.aload_n 0, 1) := by decide +kernel
theorem dX11_set_46 : decode cX11_set 46 = .ok (.iconst 2, 1) := by decide +kernel
theorem dX11_set_47 : decode cX11_set 47 = .ok (.invokevirtual 57, 3) := by decide +kernel
theorem dX11_set_50 : decode cX11_set 50 = .ok (.i2l, 1) := by decide +kernel
theorem dX11_set_51 : decode cX11_set 51 = .ok (.lreturn, 1) := by decide +kernel
theorem dX11_set_52 : decode cX11_set 52 = .ok (.aload_n 0, 1) := by decide +kernel
theorem dX11_set_53 : decode cX11_set 53 = .ok (.getfield 17, 3) := by decide +kernel
theorem dX11_set_56 : decode cX11_set 56 = .ok (.iload_n 1, 1) := by decide +kernel
theorem dX11_set_57 : decode cX11_set 57 = .ok (.iaload, 1) := by decide +kernel
theorem dX11_set_58 : decode cX11_set 58 = .ok (.iconst 1, 1) := by decide +kernel
theorem dX11_set_59 : decode cX11_set 59 = .ok (.if_icmp .ne 10, 3) := by decide +kernel
theorem dX11_set_62 : decode cX11_set 62 = .ok (.lload_n 3, 1) := by decide +kernel
theorem dX11_set_63 : decode cX11_set 63 = .ok (.l2i, 1) := by decide +kernel
theorem dX11_set_64 : decode cX11_set 64 = .ok (.i2b, 1) := by decide +kernel
theorem dX11_set_65 : decode cX11_set 65 = .ok (.i2l, 1) := by decide +kernel
theorem dX11_set_66 : decode cX11_set 66 = .ok (.goto 20, 3) := by decide +kernel
theorem dX11_set_69 : decode cX11_set 69 = .ok (.aload_n 0, 1) := by decide +kernel
theorem dX11_set_70 : decode cX11_set 70 = .ok (.getfield 17, 3) := by decide +kernel
theorem dX11_set_73 : decode cX11_set 73 = .ok (.iload_n 1, 1) := by decide +kernel
theorem dX11_set_74 : decode cX11_set 74 = .ok (.iaload, 1) := by decide +kernel
theorem dX11_set_75 : decode cX11_set 75 = .ok (.iconst 2, 1) := by decide +kernel
theorem dX11_set_76 : decode cX11_set 76 = .ok (.if_icmp .ne 9, 3) := by decide +kernel
theorem dX11_set_79 : decode cX11_set 79 = .ok (.lload_n 3, 1) := by decide +kernel
theorem dX11_set_80 : decode cX11_set 80 = .ok (.l2i, 1) := by decide +kernel
theorem dX11_set_81 : decode cX11_set 81 = .ok (.i2l, 1) := by decide +kernel
theorem dX11_set_82 : decode cX11_set 82 = .ok (.goto 4, 3) := by decide +kernel
theorem dX11_set_85 : decode cX11_set 85 = .ok (.lload_n 3, 1) := by decide +kernel
theorem dX11_set_86 : decode cX11_set 86 = .ok (.lstore 5, 2) := by decide +kernel
theorem dX11_set_88 : decode cX11_set 88 = .ok (.aload_n 0, 1) := by decide +kernel
theorem dX11_set_89 : decode cX11_set 89 = .ok (.getfield 24, 3) := by decide +kernel
theorem dX11_set_92 : decode cX11_set 92 = .ok (.bipush 100, 2) := by decide +kernel
theorem dX11_set_94 : decode cX11_set 94 = .ok (.iload_n 1, 1) := by decide +kernel
theorem dX11_set_95 : decode cX11_set 95 = .ok (.imul, 1) := by decide +kernel
theorem dX11_set_96 : decode cX11_set 96 = .ok (.iload_n 2, 1) := by decide +kernel
theorem dX11_set_97 : decode cX11_set 97 = .ok (.iadd, 1) := by decide +kernel
theorem dX11_set_98 : decode cX11_set 98 = .ok (.lload 5, 2) := by decide +kernel
theorem dX11_set_100 : decode cX11_set 100 = .ok (.lastore, 1) := by decide +kernel
theorem dX11_set_101 : decode cX11_set 101 = .ok (.aload_n 0, 1) := by decide +kernel
theorem dX11_set_102 : decode cX11_set 102 = .ok (.iconst 0, 1) := by decide +kernel
theorem dX11_set_103 : decode cX11_set 103 = .ok (.putfield 39, 3) := by decide +kernel
theorem dX11_set_106 : decode cX11_set 106 = .ok (.lload 5, 2) := by decide +kernel
theorem dX11_set_108 : decode cX11_set 108 = .ok (.lreturn, 1) := by decide +kernel
theorem dX11_copy_0 : decode cX11_copy 0 = .ok (.iload_n 1, 1) := by decide +kernel
theorem dX11_copy_1 : decode cX11_copy 1 = .ok (.invokestatic 50, 3) := by decide +kernel
theorem dX11_copy_4 : decode cX11_copy 4 = .ok (.ifCond .eq 10, 3) := by decide +kernel
theorem dX11_copy_7 : decode cX11_copy 7 = .ok (.iload_n 3, 1) := by decide +kernel
theorem dX11_copy_8 : decode cX11_copy 8 = .ok (.invokestatic 50, 3) := by decide +kernel
theorem dX11_copy_11 : decode cX11_copy 11 = .ok (.ifCond .ne 6, 3) := by decide +kernel
theorem dX11_copy_14 : decode cX11_copy 14 = .ok (.ldc 56, 2) := by decide +kernel
theorem dX11_copy_16 : decode cX11_copy 16 = .ok (.ireturn, 1) := by decide +kernel
theorem dX11_copy_17 : decode cX11_copy 17 = .ok (.aload_n 0, 1) := by decide +kernel
theorem dX11_copy_18 : decode cX11_copy 18 = .ok (.getfield 17, 3) := by decide +kernel
theorem dX11_copy_21 : decode cX11_copy 21 = .ok (.iload_n 1, 1) := by decide +kernel
theorem dX11_copy_22 : decode cX11_copy 22 = .ok (.iaload, 1) := by decide +kernel
theorem dX11_copy_23 : decode cX11_copy 23 = .ok (.ifCond .eq 12, 3) := by decide +kernel
theorem dX11_copy_26 : decode cX11_copy 26 = .ok (.aload_n 0, 1) := by decide +kernel
theorem dX11_copy_27 : decode cX11_copy 27 = .ok (.getfield 17, 3) := by decide +kernel
theorem dX11_copy_30 : decode cX11_copy 30 = .ok (.iload_n 3, 1) := by decide +kernel
theorem dX11_copy_31 : decode cX11_copy 31 = .ok (.iaload, 1) := by decide +kernel
theorem dX11_copy_32 : decode cX11_copy 32 = .ok (.ifCond .ne 9, 3) := by decide +kernel
theorem dX11_copy_35 : decode cX11_copy 35 = .ok (.aload_n 0, 1) := by decide +kernel
theorem dX11_copy_36 : decode cX11_copy 36 = .ok (.iconst 1, 1) := by decide +kernel
theorem dX11_copy_37 : decode cX11_copy 37 = .ok (.invokevirtual 57, 3) := by decide +kernel
theorem dX11_copy_40 : decode cX11_copy 40 = .ok (.ireturn, 1) := by decide +kernel
theorem dX11_copy_41 : decode cX11_copy 41 = .ok (.aload_n 0, 1) := by decide +kernel
theorem dX11_copy_42 : decode cX11_copy 42 = .ok (.getfield 17, 3) := by decide +kernel
theorem dX11_copy_45 : decode cX11_copy 45 = .ok (.iload_n 1, 1) := by decide +kernel
theorem dX11_copy_46 : decode cX11_copy 46 = .ok (.iaload, 1) := by decide +kernel
theorem dX11_copy_47 : decode cX11_copy 47 = .ok (.aload_n 0, 1) := by decide +kernel
theorem dX11_copy_48 : decode cX11_copy 48 = .ok (.getfield 17, 3) := by decide +kernel
theorem dX11_copy_51 : decode cX11_copy 51 = .ok (.iload_n 3, 1) := by decide +kernel
theorem dX11_copy_52 : decode cX11_copy 52 = .ok (.iaload, 1) := by decide +kernel
theorem dX11_copy_53 : decode cX11_copy 53 = .ok (.if_icmp .eq 9, 3) := by decide +kernel
theorem dX11_copy_56 : decode cX11_copy 56 = .ok (.aload_n 0, 1) := by decide +kernel
theorem dX11_copy_57 : decode cX11_copy 57 = .ok (.iconst 5, 1) := by decide +kernel
theorem dX11_copy_58 : decode cX11_copy 58 = .ok (.invokevirtual 57, 3) := by decide +kernel
theorem dX11_copy_61 : decode cX11_copy 61 = .ok (.ireturn, 1) := by decide +kernel
theorem dX11_copy_62 : decode cX11_copy 62 = .ok (.iload_n 2, 1) := by decide +kernel
theorem dX11_copy_63 : decode cX11_copy 63 = .ok (.ifCond .lt 48, 3) := by decide +kernel
theorem dX11_copy_66 : decode cX11_copy 66 = .ok (.iload 4, 2) := by decide +kernel
theorem dX11_copy_68 : decode cX11_copy 68 = .ok (.ifCond .lt 43, 3) := by decide +kernel
theorem dX11_copy_71 : decode cX11_copy 71 = .ok (.iload 5, 2) := by decide +kernel
theorem dX11_copy_73 : decode cX11_copy 73 = .ok (.ifCond .lt 38, 3) := by decide +kernel
theorem dX11_copy_76 : decode cX11_copy 76 = .ok (.iload_n 2, 1) := by decide +kernel
theorem dX11_copy_77 : decode cX11_copy 77 = .ok (.i2l, 1) := by decide +kernel
theorem dX11_copy_78 : decode cX11_copy 78 = .ok (.iload 5, 2) := by decide +kernel
theorem dX11_copy_80 : decode cX11_copy 80 = .ok (.i2l, 1) := by decide +kernel
theorem dX11_copy_81 : decode cX11_copy 81 = .ok (.ladd, 1) := by decide +kernel
theorem dX11_copy_82 : decode cX11_copy 82 = .ok (.aload_n 0, 1) := by decide +kernel
theorem dX11_copy_83 : decode cX11_copy 83 = .ok (.getfield 21, 3) := by decide +kernel
theorem dX11_copy_86 : decode cX11_copy 86 = .ok (.iload_n 1, 1) := by decide +kernel
theorem dX11_copy_87 : decode cX11_copy 87 = .ok (.iaload, 1) := by decide +kernel
theorem dX11_copy_88 : decode cX11_copy 88 = .ok (.i2l, 1) := by decide +kernel
theorem dX11_copy_89 : decode cX11_copy 89 = .ok (.lcmp, 1) := by decide +kernel
theorem dX11_copy_90 : decode cX11_copy 90 = .ok (.ifCond .gt 21, 3) := by decide +kernel
theorem dX11_copy_93 : decode cX11_copy 93 = .ok (.iload 4, 2) := by decide +kernel
theorem dX11_copy_95 : decode cX11_copy 95 = .ok (.i2l, 1) := by decide +kernel
theorem dX11_copy_96 : decode cX11_copy 96 = .ok (.iload 5, 2) := by decide +kernel
theorem dX11_copy_98 : decode cX11_copy 98 = .ok (.i2l, 1) := by decide +kernel
theorem dX11_copy_99 : decode cX11_copy 99 = .ok (.ladd, 1) := by decide +kernel
theorem dX11_copy_100 : decode cX11_copy 100 = .ok (.aload_n 0, 1) := by decide +kernel
theorem dX11_copy_101 : decode cX11_copy 101 = .ok (.getfield 21, 3) := by decide +kernel
theorem dX11_copy_104 : decode cX11_copy 104 = .ok (.iload_n 3, 1) := by decide +kernel
theorem dX11_copy_105 : decode cX11_copy 105 = .ok (.iaload, 1) := by decide +kernel
theorem dX11_copy_106 : decode cX11_copy 106 = .ok (.i2l, 1) := by decide +kernel
theorem dX11_copy_107 : decode cX11_copy 107 = .ok (.lcmp, 1) := by decide +kernel
theorem dX11_copy_108 : decode cX11_copy 108 = .ok (.ifCond .le 9, 3) := by decide +kernel
theorem dX11_copy_111 : decode cX11_copy 111 = .ok (.aload_n 0, 1) := by decide +kernel
theorem dX11_copy_112 : decode cX11_copy 112 = .ok (.iconst 2, 1) := by decide +kernel
theorem dX11_copy_113 : decode cX11_copy 113 = .ok (.invokevirtual 57, 3) := by decide +kernel
theorem dX11_copy_116 : decode cX11_copy 116 = .ok (.ireturn, 1) := by decide +kernel
theorem dX11_copy_117 : decode cX11_copy 117 = .ok (.iconst 0, 1) := by decide +kernel
theorem dX11_copy_118 : decode cX11_copy 118 = .ok (.istore 6, 2) := by decide +kernel
theorem dX11_copy_120 : decode cX11_copy 120 = .ok (.iload 6, 2) := by decide +kernel
theorem dX11_copy_122 : decode cX11_copy 122 = .ok (.iload 5, 2) := by decide +kernel
theorem dX11_copy_124 : decode cX11_copy 124 = .ok (.if_icmp .ge 30, 3) := by decide +kernel
theorem dX11_copy_127 : decode cX11_copy 127 = .ok (.aload_n 0, 1) := by decide +kernel
theorem dX11_copy_128 : decode cX11_copy 128 = .ok (.getfield 27, 3) := by decide +kernel
theorem dX11_copy_131 : decode cX11_copy 131 = .ok (.iload 6, 2) := by decide +kernel
theorem dX11_copy_133 : decode cX11_copy 133 = .ok (.aload_n 0, 1) := by decide +kernel
theorem dX11_copy_134 : decode cX11_copy 134 = .ok (.getfield 24, 3) := by decide +kernel
theorem dX11_copy_137 : decode cX11_copy 137 = .ok (.bipush 100, 2) := by decide +kernel
theorem dX11_copy_139 : decode cX11_copy 139 = .ok (.iload_n 1, 1) := by decide +kernel
theorem dX11_copy_140 : decode cX11_copy 140 = .ok (.imul, 1) := by decide +kernel
theorem dX11_copy_141 : decode cX11_copy 141 = .ok (.iload_n 2, 1) := by decide +kernel
theorem dX11_copy_142 : decode cX11_copy 142 = .ok (.iadd, 1) := by decide +kernel
theorem dX11_copy_143 : decode cX11_copy 143 = .ok (.iload 6, 2) := by decide +kernel
theorem dX11_copy_145 : decode cX11_copy 145 = .ok (.iadd, 1) := by decide +kernel
theorem dX11_copy_146 : decode cX11_copy 146 = .ok (.laload, 1) := by decide +kernel
theorem dX11_copy_147 : decode cX11_copy 147 = .ok (.lastore, 1) := by decide +kernel
theorem dX11_copy_148 : decode cX11_copy 148 = .ok (.iinc 6 1, 3) := by decide +kernel
theorem dX11_copy_151 : decode cX11_copy 151 = .ok (.goto (-31), 3) := by decide +kernel
theorem dX11_copy_154 : decode cX11_copy 154 = .ok (.iconst 0, 1) := by decide +kernel
theorem dX11_copy_155 : decode cX11_copy 155 = .ok (.istore 6, 2) := by decide +kernel
theorem dX11_copy_157 : decode cX11_copy 157 = .ok (.iload 6, 2) := by decide +kernel
theorem dX11_copy_159 : decode cX11_copy 159 = .ok (.iload 5, 2) := by decide +kernel
theorem dX11_copy_161 : decode cX11_copy 161 = .ok (.if_icmp .ge 31, 3) := by decide +kernel
theorem dX11_copy_164 : decode cX11_copy 164 = .ok (.aload_n 0, 1) := by decide +kernel
theorem dX11_copy_165 : decode cX11_copy 165 = .ok (.getfield 24, 3) := by decide +kernel
theorem dX11_copy_168 : decode cX11_copy 168 = .ok (.bipush 100, 2) := by decide +kernel
theorem dX11_copy_170 : decode cX11_copy 170 = .ok (.iload_n 3, 1) := by decide +kernel
theorem dX11_copy_171 : decode cX11_copy 171 = .ok (.imul, 1) := by decide +kernel
theorem dX11_copy_172 : decode cX11_copy 172 = .ok (.iload 4, 2) := by decide +kernel
theorem dX11_copy_174 : decode cX11_copy 174 = .ok (.iadd, 1) := by decide +kernel
theorem dX11_copy_175 : decode cX11_copy 175 = .ok (.iload 6, 2) := by decide +kernel
theorem dX11_copy_177 : decode cX11_copy 177 = .ok (.iadd, 1) := by decide +kernel
theorem dX11_copy_178 : decode cX11_copy 178 = .ok (.aload_n 0, 1) := by decide +kernel
theorem dX11_copy_179 : decode cX11_copy 179 = .ok (.getfield 27, 3) := by decide +kernel
theorem dX11_copy_182 : decode cX11_copy 182 = .ok (.iload 6, 2) := by decide +kernel
theorem dX11_copy_184 : decode cX11_copy 184 = .ok (.laload, 1) := by decide +kernel
theorem dX11_copy_185 : decode cX11_copy 185 = .ok (.lastore, 1) := by decide +kernel
theorem dX11_copy_186 : decode cX11_copy 186 = .ok (.iinc 6 1, 3) := by decide +kernel
theorem dX11_copy_189 : decode cX11_copy 189 = .ok (.goto (-32), 3) := by decide +kernel
theorem dX11_copy_192 : decode cX11_copy 192 = .ok (.aload_n 0, 1) := by decide +kernel
theorem dX11_copy_193 : decode cX11_copy 193 = .ok (.iload 5, 2) := by decide +kernel
theorem dX11_copy_195 : decode cX11_copy 195 = .ok (.invokevirtual 61, 3) := by decide +kernel
theorem dX11_copy_198 : decode cX11_copy 198 = .ok (.ireturn, 1) := by decide +kernel
theorem dX11_drop_0 : decode cX11_drop 0 = .ok (.iload_n 1, 1) := by decide +kernel
theorem dX11_drop_1 : decode cX11_drop 1 = .ok (.invokestatic 50, 3) := by decide +kernel
theorem dX11_drop_4 : decode cX11_drop 4 = .ok (.ifCond .ne 6, 3) := by decide +kernel
theorem dX11_drop_7 : decode cX11_drop 7 = .ok (.ldc 56, 2) := by decide +kernel
theorem dX11_drop_9 : decode cX11_drop 9 = .ok (.ireturn, 1) := by decide +kernel
theorem dX11_drop_10 : decode cX11_drop 10 = .ok (.aload_n 0, 1) := by decide +kernel
theorem dX11_drop_11 : decode cX11_drop 11 = .ok (.getfield 17, 3) := by decide +kernel
theorem dX11_drop_14 : decode cX11_drop 14 = .ok (.iload_n 1, 1) := by decide +kernel
theorem dX11_drop_15 : decode cX11_drop 15 = .ok (.iaload, 1) := by decide +kernel
theorem dX11_drop_16 : decode cX11_drop 16 = .ok (.ifCond .ne 9, 3) := by decide +kernel
theorem dX11_drop_19 : decode cX11_drop 19 = .ok (.aload_n 0, 1) := by decide +kernel
theorem dX11_drop_20 : decode cX11_drop 20 = .ok (.iconst 1, 1) := by decide +kernel
theorem dX11_drop_21 : decode cX11_drop 21 = .ok (.invokevirtual 57, 3) := by decide +kernel
theorem dX11_drop_24 : decode cX11_drop 24 = .ok (.ireturn, 1) := by decide +kernel
theorem dX11_drop_25 : decode cX11_drop 25 = .ok (.aload_n 0, 1) := by decide +kernel
theorem dX11_drop_26 : decode cX11_drop 26 = .ok (.getfield 17, 3) := by decide +kernel
theorem dX11_drop_29 : decode cX11_drop 29 = .ok (.iload_n 1, 1) := by decide +kernel
theorem dX11_drop_30 : decode cX11_drop 30 = .ok (.iconst 0, 1) := by decide +kernel
theorem dX11_drop_31 : decode cX11_drop 31 = .ok (.iastore, 1) := by decide +kernel
theorem dX11_drop_32 : decode cX11_drop 32 = .ok (.aload_n 0, 1) := by decide +kernel
theorem dX11_drop_33 : decode cX11_drop 33 = .ok (.aload_n 0, 1) := by decide +kernel
theorem dX11_drop_34 : decode cX11_drop 34 = .ok (.getfield 21, 3) := by decide +kernel
theorem dX11_drop_37 : decode cX11_drop 37 = .ok (.iload_n 1, 1) := by decide +kernel
theorem dX11_drop_38 : decode cX11_drop 38 = .ok (.iaload, 1) := by decide +kernel
theorem dX11_drop_39 : decode cX11_drop 39 = .ok (.invokevirtual 61, 3) := by decide +kernel
theorem dX11_drop_42 : decode cX11_drop 42 = .ok (.ireturn, 1) := by decide +kernel
theorem dX11_load_0 : decode cX11_load 0 = .ok (.iconst 0, 1) := by decide +kernel
theorem dX11_load_1 : decode cX11_load 1 = .ok (.istore_n 3, 1) := by decide +kernel
theorem dX11_load_2 : decode cX11_load 2 = .ok (.iload_n 3, 1) := by decide +kernel
theorem dX11_load_3 : decode cX11_load 3 = .ok (.iconst 4, 1) := by decide +kernel
theorem dX11_load_4 : decode cX11_load 4 = .ok (.if_icmp .ge 27, 3) := by decide +kernel
theorem dX11_load_7 : decode cX11_load 7 = .ok (.aload_n 0, 1) := by decide +kernel
theorem dX11_load_8 : decode cX11_load 8 = .ok (.getfield 33, 3) := by decide +kernel
theorem dX11_load_11 : decode cX11_load 11 = .ok (.iload_n 1, 1) := by decide +kernel
theorem dX11_load_12 : decode cX11_load 12 = .ok (.iload_n 3, 1) := by decide +kernel
theorem dX11_load_13 : decode cX11_load 13 = .ok (.iadd, 1) := by decide +kernel
theorem dX11_load_14 : decode cX11_load 14 = .ok (.aload_n 0, 1) := by decide +kernel
theorem dX11_load_15 : decode cX11_load 15 = .ok (.getfield 13, 3) := by decide +kernel
theorem dX11_load_18 : decode cX11_load 18 = .ok (.iconst 4, 1) := by decide +kernel
theorem dX11_load_19 : decode cX11_load 19 = .ok (.iload_n 2, 1) := by decide +kernel
theorem dX11_load_20 : decode cX11_load 20 = .ok (.imul, 1) := by decide +kernel
theorem dX11_load_21 : decode cX11_load 21 = .ok (.iload_n 3, 1) := by decide +kernel
theorem dX11_load_22 : decode cX11_load 22 = .ok (.iadd, 1) := by decide +kernel
theorem dX11_load_23 : decode cX11_load 23 = .ok (.laload, 1) := by decide +kernel
theorem dX11_load_24 : decode cX11_load 24 = .ok (.lastore, 1) := by decide +kernel
theorem dX11_load_25 : decode cX11_load 25 = .ok (.iinc 3 1, 3) := by decide +kernel
theorem dX11_load_28 : decode cX11_load 28 = .ok (.goto (-26), 3) := by decide +kernel
theorem dX11_load_31 : decode cX11_load 31 = .ok (.return_, 1) := by decide +kernel
theorem dX11_copyOf_0 : decode cX11_copyOf 0 = .ok (.iconst 0, 1) := by decide +kernel
theorem dX11_copyOf_1 : decode cX11_copyOf 1 = .ok (.istore_n 3, 1) := by decide +kernel
theorem dX11_copyOf_2 : decode cX11_copyOf 2 = .ok (.iload_n 3, 1) := by decide +kernel
theorem dX11_copyOf_3 : decode cX11_copyOf 3 = .ok (.iconst 4, 1) := by decide +kernel
theorem dX11_copyOf_4 : decode cX11_copyOf 4 = .ok (.if_icmp .ge 25, 3) := by decide +kernel
theorem dX11_copyOf_7 : decode cX11_copyOf 7 = .ok (.aload_n 0, 1) := by decide +kernel
theorem dX11_copyOf_8 : decode cX11_copyOf 8 = .ok (.getfield 33, 3) := by decide +kernel
theorem dX11_copyOf_11 : decode cX11_copyOf 11 = .ok (.iload_n 1, 1) := by decide +kernel
theorem dX11_copyOf_12 : decode cX11_copyOf 12 = .ok (.iload_n 3, 1) := by decide +kernel
theorem dX11_copyOf_13 : decode cX11_copyOf 13 = .ok (.iadd, 1) := by decide +kernel
theorem dX11_copyOf_14 : decode cX11_copyOf 14 = .ok (.aload_n 0, 1) := by decide +kernel
theorem dX11_copyOf_15 : decode cX11_copyOf 15 = .ok (.getfield 33, 3) := by decide +kernel
theorem dX11_copyOf_18 : decode cX11_copyOf 18 = .ok (.iload_n 2, 1) := by decide +kernel
theorem dX11_copyOf_19 : decode cX11_copyOf 19 = .ok (.iload_n 3, 1) := by decide +kernel
theorem dX11_copyOf_20 : decode cX11_copyOf 20 = .ok (.iadd, 1) := by decide +kernel
theorem dX11_copyOf_21 : decode cX11_copyOf 21 = .ok (.laload, 1) := by decide +kernel
theorem dX11_copyOf_22 : decode cX11_copyOf 22 = .ok (.lastore, 1) := by decide +kernel
theorem dX11_copyOf_23 : decode cX11_copyOf 23 = .ok (.iinc 3 1, 3) := by decide +kernel
theorem dX11_copyOf_26 : decode cX11_copyOf 26 = .ok (.goto (-24), 3) := by decide +kernel
theorem dX11_copyOf_29 : decode cX11_copyOf 29 = .ok (.return_, 1) := by decide +kernel
theorem dX11_put_0 : decode cX11_put 0 = .ok (.aload_n 0, 1) := by decide +kernel
theorem dX11_put_1 : decode cX11_put 1 = .ok (.getfield 33, 3) := by decide +kernel
theorem dX11_put_4 : decode cX11_put 4 = .ok (.iload_n 1, 1) := by decide +kernel
theorem dX11_put_5 : decode cX11_put 5 = .ok (.lload_n 2, 1) := by decide +kernel
theorem dX11_put_6 : decode cX11_put 6 = .ok (.lastore, 1) := by decide +kernel
theorem dX11_put_7 : decode cX11_put 7 = .ok (.aload_n 0, 1) := by decide +kernel
theorem dX11_put_8 : decode cX11_put 8 = .ok (.getfield 33, 3) := by decide +kernel
theorem dX11_put_11 : decode cX11_put 11 = .ok (.iload_n 1, 1) := by decide +kernel
theorem dX11_put_12 : decode cX11_put 12 = .ok (.iconst 1, 1) := by decide +kernel
theorem dX11_put_13 : decode cX11_put 13 = .ok (.iadd, 1) := by decide +kernel
theorem dX11_put_14 : decode cX11_put 14 = .ok (.lload 4, 2) := by decide +kernel
theorem dX11_put_16 : decode cX11_put 16 = .ok (.lastore, 1) := by decide +kernel
theorem dX11_put_17 : decode cX11_put 17 = .ok (.aload_n 0, 1) := by decide +kernel
theorem dX11_put_18 : decode cX11_put 18 = .ok (.getfield 33, 3) := by decide +kernel
theorem dX11_put_21 : decode cX11_put 21 = .ok (.iload_n 1, 1) := by decide +kernel
theorem dX11_put_22 : decode cX11_put 22 = .ok (.iconst 2, 1) := by decide +kernel
theorem dX11_put_23 : decode cX11_put 23 = .ok (.iadd, 1) := by decide +kernel
theorem dX11_put_24 : decode cX11_put 24 = .ok (.lload 6, 2) := by decide +kernel
theorem dX11_put_26 : decode cX11_put 26 = .ok (.lastore, 1) := by decide +kernel
theorem dX11_put_27 : decode cX11_put 27 = .ok (.aload_n 0, 1) := by decide +kernel
theorem dX11_put_28 : decode cX11_put 28 = .ok (.getfield 33, 3) := by decide +kernel
theorem dX11_put_31 : decode cX11_put 31 = .ok (.iload_n 1, 1) := by decide +kernel
theorem dX11_put_32 : decode cX11_put 32 = .ok (.iconst 3, 1) := by decide +kernel
theorem dX11_put_33 : decode cX11_put 33 = .ok (.iadd, 1) := by decide +kernel
theorem dX11_put_34 : decode cX11_put 34 = .ok (.lload 8, 2) := by decide +kernel
theorem dX11_put_36 : decode cX11_put 36 = .ok (.lastore, 1) := by decide +kernel
theorem dX11_put_37 : decode cX11_put 37 = .ok (.return_, 1) := by decide +kernel
theorem dX11_hold_0 : decode cX11_hold 0 = .ok (.aload_n 0, 1) := by decide +kernel
theorem dX11_hold_1 : decode cX11_hold 1 = .ok (.getfield 7, 3) := by decide +kernel
theorem dX11_hold_4 : decode cX11_hold 4 = .ok (.iload_n 1, 1) := by decide +kernel
theorem dX11_hold_5 : decode cX11_hold 5 = .ok (.iconst 1, 1) := by decide +kernel
theorem dX11_hold_6 : decode cX11_hold 6 = .ok (.bastore, 1) := by decide +kernel
theorem dX11_hold_7 : decode cX11_hold 7 = .ok (.iconst 0, 1) := by decide +kernel
theorem dX11_hold_8 : decode cX11_hold 8 = .ok (.istore_n 3, 1) := by decide +kernel
theorem dX11_hold_9 : decode cX11_hold 9 = .ok (.iload_n 3, 1) := by decide +kernel
theorem dX11_hold_10 : decode cX11_hold 10 = .ok (.iconst 4, 1) := by decide +kernel
theorem dX11_hold_11 : decode cX11_hold 11 = .ok (.if_icmp .ge 27, 3) := by decide +kernel
theorem dX11_hold_14 : decode cX11_hold 14 = .ok (.aload_n 0, 1) := by decide +kernel
theorem dX11_hold_15 : decode cX11_hold 15 = .ok (.getfield 13, 3) := by decide +kernel
theorem dX11_hold_18 : decode cX11_hold 18 = .ok (.iconst 4, 1) := by decide +kernel
theorem dX11_hold_19 : decode cX11_hold 19 = .ok (.iload_n 1, 1) := by decide +kernel
theorem dX11_hold_20 : decode cX11_hold 20 = .ok (.imul, 1) := by decide +kernel
theorem dX11_hold_21 : decode cX11_hold 21 = .ok (.iload_n 3, 1) := by decide +kernel
theorem dX11_hold_22 : decode cX11_hold 22 = .ok (.iadd, 1) := by decide +kernel
theorem dX11_hold_23 : decode cX11_hold 23 = .ok (.aload_n 0, 1) := by decide +kernel
theorem dX11_hold_24 : decode cX11_hold 24 = .ok (.getfield 33, 3) := by decide +kernel
theorem dX11_hold_27 : decode cX11_hold 27 = .ok (.iload_n 2, 1) := by decide +kernel
theorem dX11_hold_28 : decode cX11_hold 28 = .ok (.iload_n 3, 1) := by decide +kernel
theorem dX11_hold_29 : decode cX11_hold 29 = .ok (.iadd, 1) := by decide +kernel
theorem dX11_hold_30 : decode cX11_hold 30 = .ok (.laload, 1) := by decide +kernel
theorem dX11_hold_31 : decode cX11_hold 31 = .ok (.lastore, 1) := by decide +kernel
theorem dX11_hold_32 : decode cX11_hold 32 = .ok (.iinc 3 1, 3) := by decide +kernel
theorem dX11_hold_35 : decode cX11_hold 35 = .ok (.goto (-26), 3) := by decide +kernel
theorem dX11_hold_38 : decode cX11_hold 38 = .ok (.return_, 1) := by decide +kernel
theorem dX11_norm4_0 : decode cX11_norm4 0 = .ok (.aload_n 0, 1) := by decide +kernel
theorem dX11_norm4_1 : decode cX11_norm4 1 = .ok (.getfield 33, 3) := by decide +kernel
theorem dX11_norm4_4 : decode cX11_norm4 4 = .ok (.iload_n 1, 1) := by decide +kernel
theorem dX11_norm4_5 : decode cX11_norm4 5 = .ok (.laload, 1) := by decide +kernel
theorem dX11_norm4_6 : decode cX11_norm4 6 = .ok (.aload_n 0, 1) := by decide +kernel
theorem dX11_norm4_7 : decode cX11_norm4 7 = .ok (.getfield 33, 3) := by decide +kernel
theorem dX11_norm4_10 : decode cX11_norm4 10 = .ok (.iload_n 1, 1) := by decide +kernel
theorem dX11_norm4_11 : decode cX11_norm4 11 = .ok (.laload, 1) := by decide +kernel
theorem dX11_norm4_12 : decode cX11_norm4 12 = .ok (.lmul, 1) := by decide +kernel
theorem dX11_norm4_13 : decode cX11_norm4 13 = .ok (.aload_n 0, 1) := by decide +kernel
theorem dX11_norm4_14 : decode cX11_norm4 14 = .ok (.getfield 33, 3) := by decide +kernel
theorem dX11_norm4_17 : decode cX11_norm4 17 = .ok (.iload_n 1, 1) := by decide +kernel
theorem dX11_norm4_18 : decode cX11_norm4 18 = .ok (.iconst 1, 1) := by decide +kernel
theorem dX11_norm4_19 : decode cX11_norm4 19 = .ok (.iadd, 1) := by decide +kernel
theorem dX11_norm4_20 : decode cX11_norm4 20 = .ok (.laload, 1) := by decide +kernel
theorem dX11_norm4_21 : decode cX11_norm4 21 = .ok (.aload_n 0, 1) := by decide +kernel
theorem dX11_norm4_22 : decode cX11_norm4 22 = .ok (.getfield 33, 3) := by decide +kernel
theorem dX11_norm4_25 : decode cX11_norm4 25 = .ok (.iload_n 1, 1) := by decide +kernel
theorem dX11_norm4_26 : decode cX11_norm4 26 = .ok (.iconst 1, 1) := by decide +kernel
theorem dX11_norm4_27 : decode cX11_norm4 27 = .ok (.iadd, 1) := by decide +kernel
theorem dX11_norm4_28 : decode cX11_norm4 28 = .ok (.laload, 1) := by decide +kernel
theorem dX11_norm4_29 : decode cX11_norm4 29 = .ok (.lmul, 1) := by decide +kernel
theorem dX11_norm4_30 : decode cX11_norm4 30 = .ok (.ladd, 1) := by decide +kernel
theorem dX11_norm4_31 : decode cX11_norm4 31 = .ok (.aload_n 0, 1) := by decide +kernel
theorem dX11_norm4_32 : decode cX11_norm4 32 = .ok (.getfield 33, 3) := by decide +kernel
theorem dX11_norm4_35 : decode cX11_norm4 35 = .ok (.iload_n 1, 1) := by decide +kernel
theorem dX11_norm4_36 : decode cX11_norm4 36 = .ok (.iconst 2, 1) := by decide +kernel
theorem dX11_norm4_37 : decode cX11_norm4 37 = .ok (.iadd, 1) := by decide +kernel
theorem dX11_norm4_38 : decode cX11_norm4 38 = .ok (.laload, 1) := by decide +kernel
theorem dX11_norm4_39 : decode cX11_norm4 39 = .ok (.aload_n 0, 1) := by decide +kernel
theorem dX11_norm4_40 : decode cX11_norm4 40 = .ok (.getfield 33, 3) := by decide +kernel
theorem dX11_norm4_43 : decode cX11_norm4 43 = .ok (.iload_n 1, 1) := by decide +kernel
theorem dX11_norm4_44 : decode cX11_norm4 44 = .ok (.iconst 2, 1) := by decide +kernel
theorem dX11_norm4_45 : decode cX11_norm4 45 = .ok (.iadd, 1) := by decide +kernel
theorem dX11_norm4_46 : decode cX11_norm4 46 = .ok (.laload, 1) := by decide +kernel
theorem dX11_norm4_47 : decode cX11_norm4 47 = .ok (.lmul, 1) := by decide +kernel
theorem dX11_norm4_48 : decode cX11_norm4 48 = .ok (.ladd, 1) := by decide +kernel
theorem dX11_norm4_49 : decode cX11_norm4 49 = .ok (.aload_n 0, 1) := by decide +kernel
theorem dX11_norm4_50 : decode cX11_norm4 50 = .ok (.getfield 33, 3) := by decide +kernel
theorem dX11_norm4_53 : decode cX11_norm4 53 = .ok (.iload_n 1, 1) := by decide +kernel
theorem dX11_norm4_54 : decode cX11_norm4 54 = .ok (.iconst 3, 1) := by decide +kernel
theorem dX11_norm4_55 : decode cX11_norm4 55 = .ok (.iadd, 1) := by decide +kernel
theorem dX11_norm4_56 : decode cX11_norm4 56 = .ok (.laload, 1) := by decide +kernel
theorem dX11_norm4_57 : decode cX11_norm4 57 = .ok (.aload_n 0, 1) := by decide +kernel
theorem dX11_norm4_58 : decode cX11_norm4 58 = .ok (.getfield 33, 3) := by decide +kernel
theorem dX11_norm4_61 : decode cX11_norm4 61 = .ok (.iload_n 1, 1) := by decide +kernel
theorem dX11_norm4_62 : decode cX11_norm4 62 = .ok (.iconst 3, 1) := by decide +kernel
theorem dX11_norm4_63 : decode cX11_norm4 63 = .ok (.iadd, 1) := by decide +kernel
theorem dX11_norm4_64 : decode cX11_norm4 64 = .ok (.laload, 1) := by decide +kernel
theorem dX11_norm4_65 : decode cX11_norm4 65 = .ok (.lmul, 1) := by decide +kernel
theorem dX11_norm4_66 : decode cX11_norm4 66 = .ok (.ladd, 1) := by decide +kernel
theorem dX11_norm4_67 : decode cX11_norm4 67 = .ok (.ldc2_w 66, 3) := by decide +kernel
theorem dX11_norm4_70 : decode cX11_norm4 70 = .ok (.ldiv, 1) := by decide +kernel
theorem dX11_norm4_71 : decode cX11_norm4 71 = .ok (.lreturn, 1) := by decide +kernel
theorem dX11_isNought_0 : decode cX11_isNought 0 = .ok (.aload_n 0, 1) := by decide +kernel
theorem dX11_isNought_1 : decode cX11_isNought 1 = .ok (.getfield 33, 3) := by decide +kernel
theorem dX11_isNought_4 : decode cX11_isNought 4 = .ok (.iload_n 1, 1) := by decide +kernel
theorem dX11_isNought_5 : decode cX11_isNought 5 = .ok (.laload, 1) := by decide +kernel
theorem dX11_isNought_6 : decode cX11_isNought 6 = .ok (.lconst 0, 1) := by decide +kernel
theorem dX11_isNought_7 : decode cX11_isNought 7 = .ok (.lcmp, 1) := by decide +kernel
theorem dX11_isNought_8 : decode cX11_isNought 8 = .ok (.ifCond .ne 46, 3) := by decide +kernel
theorem dX11_isNought_11 : decode cX11_isNought 11 = .ok (.aload_n 0, 1) := by decide +kernel
theorem dX11_isNought_12 : decode cX11_isNought 12 = .ok (.getfield 33, 3) := by decide +kernel
theorem dX11_isNought_15 : decode cX11_isNought 15 = .ok (.iload_n 1, 1) := by decide +kernel
theorem dX11_isNought_16 : decode cX11_isNought 16 = .ok (.iconst 1, 1) := by decide +kernel
theorem dX11_isNought_17 : decode cX11_isNought 17 = .ok (.iadd, 1) := by decide +kernel
theorem dX11_isNought_18 : decode cX11_isNought 18 = .ok (.laload, 1) := by decide +kernel
theorem dX11_isNought_19 : decode cX11_isNought 19 = .ok (.lconst 0, 1) := by decide +kernel
theorem dX11_isNought_20 : decode cX11_isNought 20 = .ok (.lcmp, 1) := by decide +kernel
theorem dX11_isNought_21 : decode cX11_isNought 21 = .ok (.ifCond .ne 33, 3) := by decide +kernel
theorem dX11_isNought_24 : decode cX11_isNought 24 = .ok (.aload_n 0, 1) := by decide +kernel
theorem dX11_isNought_25 : decode cX11_isNought 25 = .ok (.getfield 33, 3) := by decide +kernel
theorem dX11_isNought_28 : decode cX11_isNought 28 = .ok (.iload_n 1, 1) := by decide +kernel
theorem dX11_isNought_29 : decode cX11_isNought 29 = .ok (.iconst 2, 1) := by decide +kernel
theorem dX11_isNought_30 : decode cX11_isNought 30 = .ok (.iadd, 1) := by decide +kernel
theorem dX11_isNought_31 : decode cX11_isNought 31 = .ok (.laload, 1) := by decide +kernel
theorem dX11_isNought_32 : decode cX11_isNought 32 = .ok (.lconst 0, 1) := by decide +kernel
theorem dX11_isNought_33 : decode cX11_isNought 33 = .ok (.lcmp, 1) := by decide +kernel
theorem dX11_isNought_34 : decode cX11_isNought 34 = .ok (.ifCond .ne 20, 3) := by decide +kernel
theorem dX11_isNought_37 : decode cX11_isNought 37 = .ok (.aload_n 0, 1) := by decide +kernel
theorem dX11_isNought_38 : decode cX11_isNought 38 = .ok (.getfield 33, 3) := by decide +kernel
theorem dX11_isNought_41 : decode cX11_isNought 41 = .ok (.iload_n 1, 1) := by decide +kernel
theorem dX11_isNought_42 : decode cX11_isNought 42 = .ok (.iconst 3, 1) := by decide +kernel
theorem dX11_isNought_43 : decode cX11_isNought 43 = .ok (.iadd, 1) := by decide +kernel
theorem dX11_isNought_44 : decode cX11_isNought 44 = .ok (.laload, 1) := by decide +kernel
theorem dX11_isNought_45 : decode cX11_isNought 45 = .ok (.lconst 0, 1) := by decide +kernel
theorem dX11_isNought_46 : decode cX11_isNought 46 = .ok (.lcmp, 1) := by decide +kernel
theorem dX11_isNought_47 : decode cX11_isNought 47 = .ok (.ifCond .ne 7, 3) := by decide +kernel
theorem dX11_isNought_50 : decode cX11_isNought 50 = .ok (.iconst 1, 1) := by decide +kernel
theorem dX11_isNought_51 : decode cX11_isNought 51 = .ok (.goto 4, 3) := by decide +kernel
theorem dX11_isNought_54 : decode cX11_isNought 54 = .ok (.iconst 0, 1) := by decide +kernel
theorem dX11_isNought_55 : decode cX11_isNought 55 = .ok (.ireturn, 1) := by decide +kernel
theorem dX11_multiply_0 : decode cX11_multiply 0 = .ok (.aload_n 0, 1) := by decide +kernel
theorem dX11_multiply_1 : decode cX11_multiply 1 = .ok (.getfield 33, 3) := by decide +kernel
theorem dX11_multiply_4 : decode cX11_multiply 4 = .ok (.iload_n 2, 1) := by decide +kernel
theorem dX11_multiply_5 : decode cX11_multiply 5 = .ok (.laload, 1) := by decide +kernel
theorem dX11_multiply_6 : decode cX11_multiply 6 = .ok (.aload_n 0, 1) := by decide +kernel
theorem dX11_multiply_7 : decode cX11_multiply 7 = .ok (.getfield 33, 3) := by decide +kernel
theorem dX11_multiply_10 : decode cX11_multiply 10 = .ok (.iload_n 3, 1) := by decide +kernel
theorem dX11_multiply_11 : decode cX11_multiply 11 = .ok (.laload, 1) := by decide +kernel
theorem dX11_multiply_12 : decode cX11_multiply 12 = .ok (.lmul, 1) := by decide +kernel
theorem dX11_multiply_13 : decode cX11_multiply 13 = .ok (.aload_n 0, 1) := by decide +kernel
theorem dX11_multiply_14 : decode cX11_multiply 14 = .ok (.getfield 33, 3) := by decide +kernel
theorem dX11_multiply_17 : decode cX11_multiply 17 = .ok (.iload_n 2, 1) := by decide +kernel
theorem dX11_multiply_18 : decode cX11_multiply 18 = .ok (.iconst 1, 1) := by decide +kernel
theorem dX11_multiply_19 : decode cX11_multiply 19 = .ok (.iadd, 1) := by decide +kernel
theorem dX11_multiply_20 : decode cX11_multiply 20 = .ok (.laload, 1) := by decide +kernel
theorem dX11_multiply_21 : decode cX11_multiply 21 = .ok (.aload_n 0, 1) := by decide +kernel
theorem dX11_multiply_22 : decode cX11_multiply 22 = .ok (.getfield 33, 3) := by decide +kernel
theorem dX11_multiply_25 : decode cX11_multiply 25 = .ok (.iload_n 3, 1) := by decide +kernel
theorem dX11_multiply_26 : decode cX11_multiply 26 = .ok (.iconst 1, 1) := by decide +kernel
theorem dX11_multiply_27 : decode cX11_multiply 27 = .ok (.iadd, 1) := by decide +kernel
theorem dX11_multiply_28 : decode cX11_multiply 28 = .ok (.laload, 1) := by decide +kernel
theorem dX11_multiply_29 : decode cX11_multiply 29 = .ok (.lmul, 1) := by decide +kernel
theorem dX11_multiply_30 : decode cX11_multiply 30 = .ok (.lsub, 1) := by decide +kernel
theorem dX11_multiply_31 : decode cX11_multiply 31 = .ok (.aload_n 0, 1) := by decide +kernel
theorem dX11_multiply_32 : decode cX11_multiply 32 = .ok (.getfield 33, 3) := by decide +kernel
theorem dX11_multiply_35 : decode cX11_multiply 35 = .ok (.iload_n 2, 1) := by decide +kernel
theorem dX11_multiply_36 : decode cX11_multiply 36 = .ok (.iconst 2, 1) := by decide +kernel
theorem dX11_multiply_37 : decode cX11_multiply 37 = .ok (.iadd, 1) := by decide +kernel
theorem dX11_multiply_38 : decode cX11_multiply 38 = .ok (.laload, 1) := by decide +kernel
theorem dX11_multiply_39 : decode cX11_multiply 39 = .ok (.aload_n 0, 1) := by decide +kernel
theorem dX11_multiply_40 : decode cX11_multiply 40 = .ok (.getfield 33, 3) := by decide +kernel
theorem dX11_multiply_43 : decode cX11_multiply 43 = .ok (.iload_n 3, 1) := by decide +kernel
theorem dX11_multiply_44 : decode cX11_multiply 44 = .ok (.iconst 2, 1) := by decide +kernel
theorem dX11_multiply_45 : decode cX11_multiply 45 = .ok (.iadd, 1) := by decide +kernel
theorem dX11_multiply_46 : decode cX11_multiply 46 = .ok (.laload, 1) := by decide +kernel
theorem dX11_multiply_47 : decode cX11_multiply 47 = .ok (.lmul, 1) := by decide +kernel
theorem dX11_multiply_48 : decode cX11_multiply 48 = .ok (.lsub, 1) := by decide +kernel
theorem dX11_multiply_49 : decode cX11_multiply 49 = .ok (.aload_n 0, 1) := by decide +kernel
theorem dX11_multiply_50 : decode cX11_multiply 50 = .ok (.getfield 33, 3) := by decide +kernel
theorem dX11_multiply_53 : decode cX11_multiply 53 = .ok (.iload_n 2, 1) := by decide +kernel
theorem dX11_multiply_54 : decode cX11_multiply 54 = .ok (.iconst 3, 1) := by decide +kernel
theorem dX11_multiply_55 : decode cX11_multiply 55 = .ok (.iadd, 1) := by decide +kernel
theorem dX11_multiply_56 : decode cX11_multiply 56 = .ok (.laload, 1) := by decide +kernel
theorem dX11_multiply_57 : decode cX11_multiply 57 = .ok (.aload_n 0, 1) := by decide +kernel
theorem dX11_multiply_58 : decode cX11_multiply 58 = .ok (.getfield 33, 3) := by decide +kernel
theorem dX11_multiply_61 : decode cX11_multiply 61 = .ok (.iload_n 3, 1) := by decide +kernel
theorem dX11_multiply_62 : decode cX11_multiply 62 = .ok (.iconst 3, 1) := by decide +kernel
theorem dX11_multiply_63 : decode cX11_multiply 63 = .ok (.iadd, 1) := by decide +kernel
theorem dX11_multiply_64 : decode cX11_multiply 64 = .ok (.laload, 1) := by decide +kernel
theorem dX11_multiply_65 : decode cX11_multiply 65 = .ok (.lmul, 1) := by decide +kernel
theorem dX11_multiply_66 : decode cX11_multiply 66 = .ok (.lsub, 1) := by decide +kernel
theorem dX11_multiply_67 : decode cX11_multiply 67 = .ok (.lstore 4, 2) := by decide +kernel
theorem dX11_multiply_69 : decode cX11_multiply 69 = .ok (.aload_n 0, 1) := by decide +kernel
theorem dX11_multiply_70 : decode cX11_multiply 70 = .ok (.getfield 33, 3) := by decide +kernel
theorem dX11_multiply_73 : decode cX11_multiply 73 = .ok (.iload_n 2, 1) := by decide +kernel
theorem dX11_multiply_74 : decode cX11_multiply 74 = .ok (.laload, 1) := by decide +kernel
theorem dX11_multiply_75 : decode cX11_multiply 75 = .ok (.aload_n 0, 1) := by decide +kernel
theorem dX11_multiply_76 : decode cX11_multiply 76 = .ok (.getfield 33, 3) := by decide +kernel
theorem dX11_multiply_79 : decode cX11_multiply 79 = .ok (.iload_n 3, 1) := by decide +kernel
theorem dX11_multiply_80 : decode cX11_multiply 80 = .ok (.iconst 1, 1) := by decide +kernel
theorem dX11_multiply_81 : decode cX11_multiply 81 = .ok (.iadd, 1) := by decide +kernel
theorem dX11_multiply_82 : decode cX11_multiply 82 = .ok (.laload, 1) := by decide +kernel
theorem dX11_multiply_83 : decode cX11_multiply 83 = .ok (.lmul, 1) := by decide +kernel
theorem dX11_multiply_84 : decode cX11_multiply 84 = .ok (.aload_n 0, 1) := by decide +kernel
theorem dX11_multiply_85 : decode cX11_multiply 85 = .ok (.getfield 33, 3) := by decide +kernel
theorem dX11_multiply_88 : decode cX11_multiply 88 = .ok (.iload_n 2, 1) := by decide +kernel
theorem dX11_multiply_89 : decode cX11_multiply 89 = .ok (.iconst 1, 1) := by decide +kernel
theorem dX11_multiply_90 : decode cX11_multiply 90 = .ok (.iadd, 1) := by decide +kernel
theorem dX11_multiply_91 : decode cX11_multiply 91 = .ok (.laload, 1) := by decide +kernel
theorem dX11_multiply_92 : decode cX11_multiply 92 = .ok (.aload_n 0, 1) := by decide +kernel
theorem dX11_multiply_93 : decode cX11_multiply 93 = .ok (.getfield 33, 3) := by decide +kernel
theorem dX11_multiply_96 : decode cX11_multiply 96 = .ok (.iload_n 3, 1) := by decide +kernel
theorem dX11_multiply_97 : decode cX11_multiply 97 = .ok (.laload, 1) := by decide +kernel
theorem dX11_multiply_98 : decode cX11_multiply 98 = .ok (.lmul, 1) := by decide +kernel
theorem dX11_multiply_99 : decode cX11_multiply 99 = .ok (.ladd, 1) := by decide +kernel
theorem dX11_multiply_100 : decode cX11_multiply 100 = .ok (.aload_n 0, 1) := by decide +kernel
theorem dX11_multiply_101 : decode cX11_multiply 101 = .ok (.getfield 33, 3) := by decide +kernel
theorem dX11_multiply_104 : decode cX11_multiply 104 = .ok (.iload_n 2, 1) := by decide +kernel
theorem dX11_multiply_105 : decode cX11_multiply 105 = .ok (.iconst 2, 1) := by decide +kernel
theorem dX11_multiply_106 : decode cX11_multiply 106 = .ok (.iadd, 1) := by decide +kernel
theorem dX11_multiply_107 : decode cX11_multiply 107 = .ok (.laload, 1) := by decide +kernel
theorem dX11_multiply_108 : decode cX11_multiply 108 = .ok (.aload_n 0, 1) := by decide +kernel
theorem dX11_multiply_109 : decode cX11_multiply 109 = .ok (.getfield 33, 3) := by decide +kernel
theorem dX11_multiply_112 : decode cX11_multiply 112 = .ok (.iload_n 3, 1) := by decide +kernel
theorem dX11_multiply_113 : decode cX11_multiply 113 = .ok (.iconst 3, 1) := by decide +kernel
theorem dX11_multiply_114 : decode cX11_multiply 114 = .ok (.iadd, 1) := by decide +kernel
theorem dX11_multiply_115 : decode cX11_multiply 115 = .ok (.laload, 1) := by decide +kernel
theorem dX11_multiply_116 : decode cX11_multiply 116 = .ok (.lmul, 1) := by decide +kernel
theorem dX11_multiply_117 : decode cX11_multiply 117 = .ok (.ladd, 1) := by decide +kernel
theorem dX11_multiply_118 : decode cX11_multiply 118 = .ok (.aload_n 0, 1) := by decide +kernel
theorem dX11_multiply_119 : decode cX11_multiply 119 = .ok (.getfield 33, 3) := by decide +kernel
theorem dX11_multiply_122 : decode cX11_multiply 122 = .ok (.iload_n 2, 1) := by decide +kernel
theorem dX11_multiply_123 : decode cX11_multiply 123 = .ok (.iconst 3, 1) := by decide +kernel
theorem dX11_multiply_124 : decode cX11_multiply 124 = .ok (.iadd, 1) := by decide +kernel
theorem dX11_multiply_125 : decode cX11_multiply 125 = .ok (.laload, 1) := by decide +kernel
theorem dX11_multiply_126 : decode cX11_multiply 126 = .ok (.aload_n 0, 1) := by decide +kernel
theorem dX11_multiply_127 : decode cX11_multiply 127 = .ok (.getfield 33, 3) := by decide +kernel
theorem dX11_multiply_130 : decode cX11_multiply 130 = .ok (.iload_n 3, 1) := by decide +kernel
theorem dX11_multiply_131 : decode cX11_multiply 131 = .ok (.iconst 2, 1) := by decide +kernel
theorem dX11_multiply_132 : decode cX11_multiply 132 = .ok (.iadd, 1) := by decide +kernel
theorem dX11_multiply_133 : decode cX11_multiply 133 = .ok (.laload, 1) := by decide +kernel
theorem dX11_multiply_134 : decode cX11_multiply 134 = .ok (.lmul, 1) := by decide +kernel
theorem dX11_multiply_135 : decode cX11_multiply 135 = .ok (.lsub, 1) := by decide +kernel
theorem dX11_multiply_136 : decode cX11_multiply 136 = .ok (.lstore 6, 2) := by decide +kernel
theorem dX11_multiply_138 : decode cX11_multiply 138 = .ok (.aload_n 0, 1) := by decide +kernel
theorem dX11_multiply_139 : decode cX11_multiply 139 = .ok (.getfield 33, 3) := by decide +kernel
theorem dX11_multiply_142 : decode cX11_multiply 142 = .ok (.iload_n 2, 1) := by decide +kernel
theorem dX11_multiply_143 : decode cX11_multiply 143 = .ok (.laload, 1) := by decide +kernel
theorem dX11_multiply_144 : decode cX11_multiply 144 = .ok (.aload_n 0, 1) := by decide +kernel
theorem dX11_multiply_145 : decode cX11_multiply 145 = .ok (.getfield 33, 3) := by decide +kernel
theorem dX11_multiply_148 : decode cX11_multiply 148 = .ok (.iload_n 3, 1) := by decide +kernel
theorem dX11_multiply_149 : decode cX11_multiply 149 = .ok (.iconst 2, 1) := by decide +kernel
theorem dX11_multiply_150 : decode cX11_multiply 150 = .ok (.iadd, 1) := by decide +kernel
theorem dX11_multiply_151 : decode cX11_multiply 151 = .ok (.laload, 1) := by decide +kernel
theorem dX11_multiply_152 : decode cX11_multiply 152 = .ok (.lmul, 1) := by decide +kernel
theorem dX11_multiply_153 : decode cX11_multiply 153 = .ok (.aload_n 0, 1) := by decide +kernel
theorem dX11_multiply_154 : decode cX11_multiply 154 = .ok (.getfield 33, 3) := by decide +kernel
theorem dX11_multiply_157 : decode cX11_multiply 157 = .ok (.iload_n 2, 1) := by decide +kernel
theorem dX11_multiply_158 : decode cX11_multiply 158 = .ok (.iconst 1, 1) := by decide +kernel
theorem dX11_multiply_159 : decode cX11_multiply 159 = .ok (.iadd, 1) := by decide +kernel
theorem dX11_multiply_160 : decode cX11_multiply 160 = .ok (.laload, 1) := by decide +kernel
theorem dX11_multiply_161 : decode cX11_multiply 161 = .ok (.aload_n 0, 1) := by decide +kernel
theorem dX11_multiply_162 : decode cX11_multiply 162 = .ok (.getfield 33, 3) := by decide +kernel
theorem dX11_multiply_165 : decode cX11_multiply 165 = .ok (.iload_n 3, 1) := by decide +kernel
theorem dX11_multiply_166 : decode cX11_multiply 166 = .ok (.iconst 3, 1) := by decide +kernel
theorem dX11_multiply_167 : decode cX11_multiply 167 = .ok (.iadd, 1) := by decide +kernel
theorem dX11_multiply_168 : decode cX11_multiply 168 = .ok (.laload, 1) := by decide +kernel
theorem dX11_multiply_169 : decode cX11_multiply 169 = .ok (.lmul, 1) := by decide +kernel
theorem dX11_multiply_170 : decode cX11_multiply 170 = .ok (.lsub, 1) := by decide +kernel
theorem dX11_multiply_171 : decode cX11_multiply 171 = .ok (.aload_n 0, 1) := by decide +kernel
theorem dX11_multiply_172 : decode cX11_multiply 172 = .ok (.getfield 33, 3) := by decide +kernel
theorem dX11_multiply_175 : decode cX11_multiply 175 = .ok (.iload_n 2, 1) := by decide +kernel
theorem dX11_multiply_176 : decode cX11_multiply 176 = .ok (.iconst 2, 1) := by decide +kernel
theorem dX11_multiply_177 : decode cX11_multiply 177 = .ok (.iadd, 1) := by decide +kernel
theorem dX11_multiply_178 : decode cX11_multiply 178 = .ok (.laload, 1) := by decide +kernel
theorem dX11_multiply_179 : decode cX11_multiply 179 = .ok (.aload_n 0, 1) := by decide +kernel
theorem dX11_multiply_180 : decode cX11_multiply 180 = .ok (.getfield 33, 3) := by decide +kernel
theorem dX11_multiply_183 : decode cX11_multiply 183 = .ok (.iload_n 3, 1) := by decide +kernel
theorem dX11_multiply_184 : decode cX11_multiply 184 = .ok (.laload, 1) := by decide +kernel
theorem dX11_multiply_185 : decode cX11_multiply 185 = .ok (.lmul, 1) := by decide +kernel
theorem dX11_multiply_186 : decode cX11_multiply 186 = .ok (.ladd, 1) := by decide +kernel
theorem dX11_multiply_187 : decode cX11_multiply 187 = .ok (.aload_n 0, 1) := by decide +kernel
theorem dX11_multiply_188 : decode cX11_multiply 188 = .ok (.getfield 33, 3) := by decide +kernel
theorem dX11_multiply_191 : decode cX11_multiply 191 = .ok (.iload_n 2, 1) := by decide +kernel
theorem dX11_multiply_192 : decode cX11_multiply 192 = .ok (.iconst 3, 1) := by decide +kernel
theorem dX11_multiply_193 : decode cX11_multiply 193 = .ok (.iadd, 1) := by decide +kernel
theorem dX11_multiply_194 : decode cX11_multiply 194 = .ok (.laload, 1) := by decide +kernel
theorem dX11_multiply_195 : decode cX11_multiply 195 = .ok (.aload_n 0, 1) := by decide +kernel
theorem dX11_multiply_196 : decode cX11_multiply 196 = .ok (.getfield 33, 3) := by decide +kernel
theorem dX11_multiply_199 : decode cX11_multiply 199 = .ok (.iload_n 3, 1) := by decide +kernel
theorem dX11_multiply_200 : decode cX11_multiply 200 = .ok (.iconst 1, 1) := by decide +kernel
theorem dX11_multiply_201 : decode cX11_multiply 201 = .ok (.iadd, 1) := by decide +kernel
theorem dX11_multiply_202 : decode cX11_multiply 202 = .ok (.laload, 1) := by decide +kernel
theorem dX11_multiply_203 : decode cX11_multiply 203 = .ok (.lmul, 1) := by decide +kernel
theorem dX11_multiply_204 : decode cX11_multiply 204 = .ok (.ladd, 1) := by decide +kernel
theorem dX11_multiply_205 : decode cX11_multiply 205 = .ok (.lstore 8, 2) := by decide +kernel
theorem dX11_multiply_207 : decode cX11_multiply 207 = .ok (.aload_n 0, 1) := by decide +kernel
theorem dX11_multiply_208 : decode cX11_multiply 208 = .ok (.getfield 33, 3) := by decide +kernel
theorem dX11_multiply_211 : decode cX11_multiply 211 = .ok (.iload_n 2, 1) := by decide +kernel
theorem dX11_multiply_212 : decode cX11_multiply 212 = .ok (.laload, 1) := by decide +kernel
theorem dX11_multiply_213 : decode cX11_multiply 213 = .ok (.aload_n 0, 1) := by decide +kernel
theorem dX11_multiply_214 : decode cX11_multiply 214 = .ok (.getfield 33, 3) := by decide +kernel
theorem dX11_multiply_217 : decode cX11_multiply 217 = .ok (.iload_n 3, 1) := by decide +kernel
theorem dX11_multiply_218 : decode cX11_multiply 218 = .ok (.iconst 3, 1) := by decide +kernel
theorem dX11_multiply_219 : decode cX11_multiply 219 = .ok (.iadd, 1) := by decide +kernel
theorem dX11_multiply_220 : decode cX11_multiply 220 = .ok (.laload, 1) := by decide +kernel
theorem dX11_multiply_221 : decode cX11_multiply 221 = .ok (.lmul, 1) := by decide +kernel
theorem dX11_multiply_222 : decode cX11_multiply 222 = .ok (.aload_n 0, 1) := by decide +kernel
theorem dX11_multiply_223 : decode cX11_multiply 223 = .ok (.getfield 33, 3) := by decide +kernel
theorem dX11_multiply_226 : decode cX11_multiply 226 = .ok (.iload_n 2, 1) := by decide +kernel
theorem dX11_multiply_227 : decode cX11_multiply 227 = .ok (.iconst 1, 1) := by decide +kernel
theorem dX11_multiply_228 : decode cX11_multiply 228 = .ok (.iadd, 1) := by decide +kernel
theorem dX11_multiply_229 : decode cX11_multiply 229 = .ok (.laload, 1) := by decide +kernel
theorem dX11_multiply_230 : decode cX11_multiply 230 = .ok (.aload_n 0, 1) := by decide +kernel
theorem dX11_multiply_231 : decode cX11_multiply 231 = .ok (.getfield 33, 3) := by decide +kernel
theorem dX11_multiply_234 : decode cX11_multiply 234 = .ok (.iload_n 3, 1) := by decide +kernel
theorem dX11_multiply_235 : decode cX11_multiply 235 = .ok (.iconst 2, 1) := by decide +kernel
theorem dX11_multiply_236 : decode cX11_multiply 236 = .ok (.iadd, 1) := by decide +kernel
theorem dX11_multiply_237 : decode cX11_multiply 237 = .ok (.laload, 1) := by decide +kernel
theorem dX11_multiply_238 : decode cX11_multiply 238 = .ok (.lmul, 1) := by decide +kernel
theorem dX11_multiply_239 : decode cX11_multiply 239 = .ok (.ladd, 1) := by decide +kernel
theorem dX11_multiply_240 : decode cX11_multiply 240 = .ok (.aload_n 0, 1) := by decide +kernel
theorem dX11_multiply_241 : decode cX11_multiply 241 = .ok (.getfield 33, 3) := by decide +kernel
theorem dX11_multiply_244 : decode cX11_multiply 244 = .ok (.iload_n 2, 1) := by decide +kernel
theorem dX11_multiply_245 : decode cX11_multiply 245 = .ok (.iconst 2, 1) := by decide +kernel
theorem dX11_multiply_246 : decode cX11_multiply 246 = .ok (.iadd, 1) := by decide +kernel
theorem dX11_multiply_247 : decode cX11_multiply 247 = .ok (.laload, 1) := by decide +kernel
theorem dX11_multiply_248 : decode cX11_multiply 248 = .ok (.aload_n 0, 1) := by decide +kernel
theorem dX11_multiply_249 : decode cX11_multiply 249 = .ok (.getfield 33, 3) := by decide +kernel
theorem dX11_multiply_252 : decode cX11_multiply 252 = .ok (.iload_n 3, 1) := by decide +kernel
theorem dX11_multiply_253 : decode cX11_multiply 253 = .ok (.iconst 1, 1) := by decide +kernel
theorem dX11_multiply_254 : decode cX11_multiply 254 = .ok (.iadd, 1) := by decide +kernel
theorem dX11_multiply_255 : decode cX11_multiply 255 = .ok (.laload, 1) := by decide +kernel
theorem dX11_multiply_256 : decode cX11_multiply 256 = .ok (.lmul, 1) := by decide +kernel
theorem dX11_multiply_257 : decode cX11_multiply 257 = .ok (.lsub, 1) := by decide +kernel
theorem dX11_multiply_258 : decode cX11_multiply 258 = .ok (.aload_n 0, 1) := by decide +kernel
theorem dX11_multiply_259 : decode cX11_multiply 259 = .ok (.getfield 33, 3) := by decide +kernel
theorem dX11_multiply_262 : decode cX11_multiply 262 = .ok (.iload_n 2, 1) := by decide +kernel
theorem dX11_multiply_263 : decode cX11_multiply 263 = .ok (.iconst 3, 1) := by decide +kernel
theorem dX11_multiply_264 : decode cX11_multiply 264 = .ok (.iadd, 1) := by decide +kernel
theorem dX11_multiply_265 : decode cX11_multiply 265 = .ok (.laload, 1) := by decide +kernel
theorem dX11_multiply_266 : decode cX11_multiply 266 = .ok (.aload_n 0, 1) := by decide +kernel
theorem dX11_multiply_267 : decode cX11_multiply 267 = .ok (.getfield 33, 3) := by decide +kernel
theorem dX11_multiply_270 : decode cX11_multiply 270 = .ok (.iload_n 3, 1) := by decide +kernel
theorem dX11_multiply_271 : decode cX11_multiply 271 = .ok (.laload, 1) := by decide +kernel
theorem dX11_multiply_272 : decode cX11_multiply 272 = .ok (.lmul, 1) := by decide +kernel
theorem dX11_multiply_273 : decode cX11_multiply 273 = .ok (.ladd, 1) := by decide +kernel
theorem dX11_multiply_274 : decode cX11_multiply 274 = .ok (.lstore 10, 2) := by decide +kernel
theorem dX11_multiply_276 : decode cX11_multiply 276 = .ok (.aload_n 0, 1) := by decide +kernel
theorem dX11_multiply_277 : decode cX11_multiply 277 = .ok (.iload_n 1, 1) := by decide +kernel
theorem dX11_multiply_278 : decode cX11_multiply 278 = .ok (.lload 4, 2) := by decide +kernel
theorem dX11_multiply_280 : decode cX11_multiply 280 = .ok (.ldc2_w 54, 3) := by decide +kernel
theorem dX11_multiply_283 : decode cX11_multiply 283 = .ok (.ldiv, 1) := by decide +kernel
theorem dX11_multiply_284 : decode cX11_multiply 284 = .ok (.lload 6, 2) := by decide +kernel
theorem dX11_multiply_286 : decode cX11_multiply 286 = .ok (.ldc2_w 54, 3) := by decide +kernel
theorem dX11_multiply_289 : decode cX11_multiply 289 = .ok (.ldiv, 1) := by decide +kernel
theorem dX11_multiply_290 : decode cX11_multiply 290 = .ok (.lload 8, 2) := by decide +kernel
theorem dX11_multiply_292 : decode cX11_multiply 292 = .ok (.ldc2_w 54, 3) := by decide +kernel
theorem dX11_multiply_295 : decode cX11_multiply 295 = .ok (.ldiv, 1) := by decide +kernel
theorem dX11_multiply_296 : decode cX11_multiply 296 = .ok (.lload 10, 2) := by decide +kernel
theorem dX11_multiply_298 : decode cX11_multiply 298 = .ok (.ldc2_w 54, 3) := by decide +kernel
theorem dX11_multiply_301 : decode cX11_multiply 301 = .ok (.ldiv, 1) := by decide +kernel
theorem dX11_multiply_302 : decode cX11_multiply 302 = .ok (.invokevirtual 68, 3) := by decide +kernel
theorem dX11_multiply_305 : decode cX11_multiply 305 = .ok (.return_, 1) := by decide +kernel
theorem dX11_turnBack_0 : decode cX11_turnBack 0 = .ok (.aload_n 0, 1) := by decide +kernel
theorem dX11_turnBack_1 : decode cX11_turnBack 1 = .ok (.iload_n 1, 1) := by decide +kernel
theorem dX11_turnBack_2 : decode cX11_turnBack 2 = .ok (.aload_n 0, 1) := by decide +kernel
theorem dX11_turnBack_3 : decode cX11_turnBack 3 = .ok (.getfield 33, 3) := by decide +kernel
theorem dX11_turnBack_6 : decode cX11_turnBack 6 = .ok (.iload_n 2, 1) := by decide +kernel
theorem dX11_turnBack_7 : decode cX11_turnBack 7 = .ok (.laload, 1) := by decide +kernel
theorem dX11_turnBack_8 : decode cX11_turnBack 8 = .ok (.aload_n 0, 1) := by decide +kernel
theorem dX11_turnBack_9 : decode cX11_turnBack 9 = .ok (.getfield 33, 3) := by decide +kernel
theorem dX11_turnBack_12 : decode cX11_turnBack 12 = .ok (.iload_n 2, 1) := by decide +kernel
theorem dX11_turnBack_13 : decode cX11_turnBack 13 = .ok (.iconst 1, 1) := by decide +kernel
theorem dX11_turnBack_14 : decode cX11_turnBack 14 = .ok (.iadd, 1) := by decide +kernel
theorem dX11_turnBack_15 : decode cX11_turnBack 15 = .ok (.laload, 1) := by decide +kernel
theorem dX11_turnBack_16 : decode cX11_turnBack 16 = .ok (.lneg, 1) := by decide +kernel
theorem dX11_turnBack_17 : decode cX11_turnBack 17 = .ok (.aload_n 0, 1) := by decide +kernel
theorem dX11_turnBack_18 : decode cX11_turnBack 18 = .ok (.getfield 33, 3) := by decide +kernel
theorem dX11_turnBack_21 : decode cX11_turnBack 21 = .ok (.iload_n 2, 1) := by decide +kernel
theorem dX11_turnBack_22 : decode cX11_turnBack 22 = .ok (.iconst 2, 1) := by decide +kernel
theorem dX11_turnBack_23 : decode cX11_turnBack 23 = .ok (.iadd, 1) := by decide +kernel
theorem dX11_turnBack_24 : decode cX11_turnBack 24 = .ok (.laload, 1) := by decide +kernel
theorem dX11_turnBack_25 : decode cX11_turnBack 25 = .ok (.lneg, 1) := by decide +kernel
theorem dX11_turnBack_26 : decode cX11_turnBack 26 = .ok (.aload_n 0, 1) := by decide +kernel
theorem dX11_turnBack_27 : decode cX11_turnBack 27 = .ok (.getfield 33, 3) := by decide +kernel
theorem dX11_turnBack_30 : decode cX11_turnBack 30 = .ok (.iload_n 2, 1) := by decide +kernel
theorem dX11_turnBack_31 : decode cX11_turnBack 31 = .ok (.iconst 3, 1) := by decide +kernel
theorem dX11_turnBack_32 : decode cX11_turnBack 32 = .ok (.iadd, 1) := by decide +kernel
theorem dX11_turnBack_33 : decode cX11_turnBack 33 = .ok (.laload, 1) := by decide +kernel
theorem dX11_turnBack_34 : decode cX11_turnBack 34 = .ok (.lneg, 1) := by decide +kernel
theorem dX11_turnBack_35 : decode cX11_turnBack 35 = .ok (.invokevirtual 68, 3) := by decide +kernel
theorem dX11_turnBack_38 : decode cX11_turnBack 38 = .ok (.return_, 1) := by decide +kernel
theorem dX11_divisor_0 : decode cX11_divisor 0 = .ok (.lload_n 0, 1) := by decide +kernel
theorem dX11_divisor_1 : decode cX11_divisor 1 = .ok (.lconst 0, 1) := by decide +kernel
theorem dX11_divisor_2 : decode cX11_divisor 2 = .ok (.lcmp, 1) := by decide +kernel
theorem dX11_divisor_3 : decode cX11_divisor 3 = .ok (.ifCond .ge 8, 3) := by decide +kernel
theorem dX11_divisor_6 : decode cX11_divisor 6 = .ok (.lload_n 0, 1) := by decide +kernel
theorem dX11_divisor_7 : decode cX11_divisor 7 = .ok (.lneg, 1) := by decide +kernel
theorem dX11_divisor_8 : decode cX11_divisor 8 = .ok (.goto 4, 3) := by decide +kernel
theorem dX11_divisor_11 : decode cX11_divisor 11 = .ok (.lload_n 0, 1) := by decide +kernel
theorem dX11_divisor_12 : decode cX11_divisor 12 = .ok (.lstore 4, 2) := by decide +kernel
theorem dX11_divisor_14 : decode cX11_divisor 14 = .ok (.lload_n 2, 1) := by decide +kernel
theorem dX11_divisor_15 : decode cX11_divisor 15 = .ok (.lconst 0, 1) := by decide +kernel
theorem dX11_divisor_16 : decode cX11_divisor 16 = .ok (.lcmp, 1) := by decide +kernel
theorem dX11_divisor_17 : decode cX11_divisor 17 = .ok (.ifCond .ge 8, 3) := by decide +kernel
theorem dX11_divisor_20 : decode cX11_divisor 20 = .ok (.lload_n 2, 1) := by decide +kernel
theorem dX11_divisor_21 : decode cX11_divisor 21 = .ok (.lneg, 1) := by decide +kernel
theorem dX11_divisor_22 : decode cX11_divisor 22 = .ok (.goto 4, 3) := by decide +kernel
theorem dX11_divisor_25 : decode cX11_divisor 25 = .ok (.lload_n 2, 1) := by decide +kernel
theorem dX11_divisor_26 : decode cX11_divisor 26 = .ok (.lstore 6, 2) := by decide +kernel
theorem dX11_divisor_28 : decode cX11_divisor 28 = .ok (.lload 6, 2) := by decide +kernel
theorem dX11_divisor_30 : decode cX11_divisor 30 = .ok (.lconst 0, 1) := by decide +kernel
theorem dX11_divisor_31 : decode cX11_divisor 31 = .ok (.lcmp, 1) := by decide +kernel
theorem dX11_divisor_32 : decode cX11_divisor 32 = .ok (.ifCond .le 21, 3) := by decide +kernel
theorem dX11_divisor_35 : decode cX11_divisor 35 = .ok (.lload 4, 2) := by decide +kernel
theorem dX11_divisor_37 : decode cX11_divisor 37 = .ok (.lload 6, 2) := by decide +kernel
theorem dX11_divisor_39 : decode cX11_divisor 39 = .ok (.lrem, 1) := by decide +kernel
theorem dX11_divisor_40 : decode cX11_divisor 40 = .ok (.lstore 8, 2) := by decide +kernel
theorem dX11_divisor_42 : decode cX11_divisor 42 = .ok (.lload 6, 2) := by decide +kernel
theorem dX11_divisor_44 : decode cX11_divisor 44 = .ok (.lstore 4, 2) := by decide +kernel
theorem dX11_divisor_46 : decode cX11_divisor 46 = .ok (.lload 8, 2) := by decide +kernel
theorem dX11_divisor_48 : decode cX11_divisor 48 = .ok (.lstore 6, 2) := by decide +kernel
theorem dX11_divisor_50 : decode cX11_divisor 50 = .ok (.goto (-22), 3) := by decide +kernel
theorem dX11_divisor_53 : decode cX11_divisor 53 = .ok (.lload 4, 2) := by decide +kernel
theorem dX11_divisor_55 : decode cX11_divisor 55 = .ok (.lreturn, 1) := by decide +kernel
theorem dX11_down_0 : decode cX11_down 0 = .ok (.lload_n 0, 1) := by decide +kernel
theorem dX11_down_1 : decode cX11_down 1 = .ok (.lload_n 2, 1) := by decide +kernel
theorem dX11_down_2 : decode cX11_down 2 = .ok (.ldiv, 1) := by decide +kernel
theorem dX11_down_3 : decode cX11_down 3 = .ok (.lstore 4, 2) := by decide +kernel
theorem dX11_down_5 : decode cX11_down 5 = .ok (.lload_n 0, 1) := by decide +kernel
theorem dX11_down_6 : decode cX11_down 6 = .ok (.lload_n 2, 1) := by decide +kernel
theorem dX11_down_7 : decode cX11_down 7 = .ok (.lrem, 1) := by decide +kernel
theorem dX11_down_8 : decode cX11_down 8 = .ok (.lconst 0, 1) := by decide +kernel
theorem dX11_down_9 : decode cX11_down 9 = .ok (.lcmp, 1) := by decide +kernel
theorem dX11_down_10 : decode cX11_down 10 = .ok (.ifCond .ge 10, 3) := by decide +kernel
theorem dX11_down_13 : decode cX11_down 13 = .ok (.lload 4, 2) := by decide +kernel
theorem dX11_down_15 : decode cX11_down 15 = .ok (.lconst 1, 1) := by decide +kernel
theorem dX11_down_16 : decode cX11_down 16 = .ok (.lsub, 1) := by decide +kernel
theorem dX11_down_17 : decode cX11_down 17 = .ok (.goto 5, 3) := by decide +kernel
theorem dX11_down_20 : decode cX11_down 20 = .ok (.lload 4, 2) := by decide +kernel
theorem dX11_down_22 : decode cX11_down 22 = .ok (.lreturn, 1) := by decide +kernel
theorem dX11_greatestWhole_0 : decode cX11_greatestWhole 0 = .ok (.aload_n 0, 1) := by decide +kernel
theorem dX11_greatestWhole_1 : decode cX11_greatestWhole 1 = .ok (.getfield 33, 3) := by decide +kernel
theorem dX11_greatestWhole_4 : decode cX11_greatestWhole 4 = .ok (.iload_n 1, 1) := by decide +kernel
theorem dX11_greatestWhole_5 : decode cX11_greatestWhole 5 = .ok (.laload, 1) := by decide +kernel
theorem dX11_greatestWhole_6 : decode cX11_greatestWhole 6 = .ok (.aload_n 0, 1) := by decide +kernel
theorem dX11_greatestWhole_7 : decode cX11_greatestWhole 7 = .ok (.getfield 33, 3) := by decide +kernel
theorem dX11_greatestWhole_10 : decode cX11_greatestWhole 10 = .ok (.iload_n 1, 1) := by decide +kernel
theorem dX11_greatestWhole_11 : decode cX11_greatestWhole 11 = .ok (.iconst 1, 1) := by decide +kernel
theorem dX11_greatestWhole_12 : decode cX11_greatestWhole 12 = .ok (.iadd, 1) := by decide +kernel
theorem dX11_greatestWhole_13 : decode cX11_greatestWhole 13 = .ok (.laload, 1) := by decide +kernel
theorem dX11_greatestWhole_14 : decode cX11_greatestWhole 14 = .ok (.invokestatic 72, 3) := by decide +kernel
theorem dX11_greatestWhole_17 : decode cX11_greatestWhole 17 = .ok (.aload_n 0, 1) := by decide +kernel
theorem dX11_greatestWhole_18 : decode cX11_greatestWhole 18 = .ok (.getfield 33, 3) := by decide +kernel
theorem dX11_greatestWhole_21 : decode cX11_greatestWhole 21 = .ok (.iload_n 1, 1) := by decide +kernel
theorem dX11_greatestWhole_22 : decode cX11_greatestWhole 22 = .ok (.iconst 2, 1) := by decide +kernel
theorem dX11_greatestWhole_23 : decode cX11_greatestWhole 23 = .ok (.iadd, 1) := by decide +kernel
theorem dX11_greatestWhole_24 : decode cX11_greatestWhole 24 = .ok (.laload, 1) := by decide +kernel
theorem dX11_greatestWhole_25 : decode cX11_greatestWhole 25 = .ok (.aload_n 0, 1) := by decide +kernel
theorem dX11_greatestWhole_26 : decode cX11_greatestWhole 26 = .ok (.getfield 33, 3) := by decide +kernel
theorem dX11_greatestWhole_29 : decode cX11_greatestWhole 29 = .ok (.iload_n 1, 1) := by decide +kernel
theorem dX11_greatestWhole_30 : decode cX11_greatestWhole 30 = .ok (.iconst 3, 1) := by decide +kernel
theorem dX11_greatestWhole_31 : decode cX11_greatestWhole 31 = .ok (.iadd, 1) := by decide +kernel
theorem dX11_greatestWhole_32 : decode cX11_greatestWhole 32 = .ok (.laload, 1) := by decide +kernel
theorem dX11_greatestWhole_33 : decode cX11_greatestWhole 33 = .ok (.invokestatic 72, 3) := by decide +kernel
theorem dX11_greatestWhole_36 : decode cX11_greatestWhole 36 = .ok (.invokestatic 72, 3) := by decide +kernel
theorem dX11_greatestWhole_39 : decode cX11_greatestWhole 39 = .ok (.lstore_n 2, 1) := by decide +kernel
theorem dX11_greatestWhole_40 : decode cX11_greatestWhole 40 = .ok (.iconst 1, 1) := by decide +kernel
theorem dX11_greatestWhole_41 : decode cX11_greatestWhole 41 = .ok (.istore 4, 2) := by decide +kernel
theorem dX11_greatestWhole_43 : decode cX11_greatestWhole 43 = .ok (.iconst 0, 1) := by decide +kernel
theorem dX11_greatestWhole_44 : decode cX11_greatestWhole 44 = .ok (.istore 5, 2) := by decide +kernel
theorem dX11_greatestWhole_46 : decode cX11_greatestWhole 46 = .ok (.iload 5, 2) := by decide +kernel
theorem dX11_greatestWhole_48 : decode cX11_greatestWhole 48 = .ok (.iconst 4, 1) := by decide +kernel
theorem dX11_greatestWhole_49 : decode cX11_greatestWhole 49 = .ok (.if_icmp .ge 41, 3) := by decide +kernel
theorem dX11_greatestWhole_52 : decode cX11_greatestWhole 52 = .ok (.iload 4, 2) := by decide +kernel
theorem dX11_greatestWhole_54 : decode cX11_greatestWhole 54 = .ok (.ifCond .eq 27, 3) := by decide +kernel
theorem dX11_greatestWhole_57 : decode cX11_greatestWhole 57 = .ok (.aload_n 0, 1) := by decide +kernel
theorem dX11_greatestWhole_58 : decode cX11_greatestWhole 58 = .ok (.getfield 33, 3) := by decide +kernel
theorem dX11_greatestWhole_61 : decode cX11_greatestWhole 61 = .ok (.iload_n 1, 1) := by decide +kernel
theorem dX11_greatestWhole_62 : decode cX11_greatestWhole 62 = .ok (.iload 5, 2) := by decide +kernel
theorem dX11_greatestWhole_64 : decode cX11_greatestWhole 64 = .ok (.iadd, 1) := by decide +kernel
theorem dX11_greatestWhole_65 : decode cX11_greatestWhole 65 = .ok (.laload, 1) := by decide +kernel
theorem dX11_greatestWhole_66 : decode cX11_greatestWhole 66 = .ok (.lload_n 2, 1) := by decide +kernel
theorem dX11_greatestWhole_67 : decode cX11_greatestWhole 67 = .ok (.ldiv, 1) := by decide +kernel
theorem dX11_greatestWhole_68 : decode cX11_greatestWhole 68 = .ok (.ldc2_w 54, 3) := by decide +kernel
theorem dX11_greatestWhole_71 : decode cX11_greatestWhole 71 = .ok (.lrem, 1) := by decide +kernel
theorem dX11_greatestWhole_72 : decode cX11_greatestWhole 72 = .ok (.lconst 0, 1) := by decide +kernel
theorem dX11_greatestWhole_73 : decode cX11_greatestWhole 73 = .ok (.lcmp, 1) := by decide +kernel
theorem dX11_greatestWhole_74 : decode cX11_greatestWhole 74 = .ok (.ifCond .eq 7, 3) := by decide +kernel
theorem dX11_greatestWhole_77 : decode cX11_greatestWhole 77 = .ok (.iconst 1, 1) := by decide +kernel
theorem dX11_greatestWhole_78 : decode cX11_greatestWhole 78 = .ok (.goto 4, 3) := by decide +kernel
theorem dX11_greatestWhole_81 : decode cX11_greatestWhole 81 = .ok (.iconst 0, 1) := by decide +kernel
theorem dX11_greatestWhole_82 : decode cX11_greatestWhole 82 = .ok (.istore 4, 2) := by decide +kernel
theorem dX11_greatestWhole_84 : decode cX11_greatestWhole 84 = .ok (.iinc 5 1, 3) := by decide +kernel
theorem dX11_greatestWhole_87 : decode cX11_greatestWhole 87 = .ok (.goto (-41), 3) := by decide +kernel
theorem dX11_greatestWhole_90 : decode cX11_greatestWhole 90 = .ok (.iload 4, 2) := by decide +kernel
theorem dX11_greatestWhole_92 : decode cX11_greatestWhole 92 = .ok (.ifCond .eq 7, 3) := by decide +kernel
theorem dX11_greatestWhole_95 : decode cX11_greatestWhole 95 = .ok (.lload_n 2, 1) := by decide +kernel
theorem dX11_greatestWhole_96 : decode cX11_greatestWhole 96 = .ok (.goto 8, 3) := by decide +kernel
theorem dX11_greatestWhole_99 : decode cX11_greatestWhole 99 = .ok (.lload_n 2, 1) := by decide +kernel
theorem dX11_greatestWhole_100 : decode cX11_greatestWhole 100 = .ok (.ldc2_w 54, 3) := by decide +kernel
theorem dX11_greatestWhole_103 : decode cX11_greatestWhole 103 = .ok (.ldiv, 1) := by decide +kernel
theorem dX11_greatestWhole_104 : decode cX11_greatestWhole 104 = .ok (.lreturn, 1) := by decide +kernel
theorem dX11_isPrime_0 : decode cX11_isPrime 0 = .ok (.lload_n 0, 1) := by decide +kernel
theorem dX11_isPrime_1 : decode cX11_isPrime 1 = .ok (.ldc2_w 54, 3) := by decide +kernel
theorem dX11_isPrime_4 : decode cX11_isPrime 4 = .ok (.lcmp, 1) := by decide +kernel
theorem dX11_isPrime_5 : decode cX11_isPrime 5 = .ok (.ifCond .ge 5, 3) := by decide +kernel
theorem dX11_isPrime_8 : decode cX11_isPrime 8 = .ok (.iconst 0, 1) := by decide +kernel
theorem dX11_isPrime_9 : decode cX11_isPrime 9 = .ok (.ireturn, 1) := by decide +kernel
theorem dX11_isPrime_10 : decode cX11_isPrime 10 = .ok (.ldc2_w 54, 3) := by decide +kernel
theorem dX11_isPrime_13 : decode cX11_isPrime 13 = .ok (.lstore_n 2, 1) := by decide +kernel
theorem dX11_isPrime_14 : decode cX11_isPrime 14 = .ok (.lload_n 2, 1) := by decide +kernel
theorem dX11_isPrime_15 : decode cX11_isPrime 15 = .ok (.lload_n 2, 1) := by decide +kernel
theorem dX11_isPrime_16 : decode cX11_isPrime 16 = .ok (.lmul, 1) := by decide +kernel
theorem dX11_isPrime_17 : decode cX11_isPrime 17 = .ok (.lload_n 0, 1) := by decide +kernel
theorem dX11_isPrime_18 : decode cX11_isPrime 18 = .ok (.lcmp, 1) := by decide +kernel
theorem dX11_isPrime_19 : decode cX11_isPrime 19 = .ok (.ifCond .gt 20, 3) := by decide +kernel
theorem dX11_isPrime_22 : decode cX11_isPrime 22 = .ok (.lload_n 0, 1) := by decide +kernel
theorem dX11_isPrime_23 : decode cX11_isPrime 23 = .ok (.lload_n 2, 1) := by decide +kernel
theorem dX11_isPrime_24 : decode cX11_isPrime 24 = .ok (.lrem, 1) := by decide +kernel
theorem dX11_isPrime_25 : decode cX11_isPrime 25 = .ok (.lconst 0, 1) := by decide +kernel
theorem dX11_isPrime_26 : decode cX11_isPrime 26 = .ok (.lcmp, 1) := by decide +kernel
theorem dX11_isPrime_27 : decode cX11_isPrime 27 = .ok (.ifCond .ne 5, 3) := by decide +kernel
theorem dX11_isPrime_30 : decode cX11_isPrime 30 = .ok (.iconst 0, 1) := by decide +kernel
theorem dX11_isPrime_31 : decode cX11_isPrime 31 = .ok (.ireturn, 1) := by decide +kernel
theorem dX11_isPrime_32 : decode cX11_isPrime 32 = .ok (.lload_n 2, 1) := by decide +kernel
theorem dX11_isPrime_33 : decode cX11_isPrime 33 = .ok (.lconst 1, 1) := by decide +kernel
theorem dX11_isPrime_34 : decode cX11_isPrime 34 = .ok (.ladd, 1) := by decide +kernel
theorem dX11_isPrime_35 : decode cX11_isPrime 35 = .ok (.lstore_n 2, 1) := by decide +kernel
theorem dX11_isPrime_36 : decode cX11_isPrime 36 = .ok (.goto (-22), 3) := by decide +kernel
theorem dX11_isPrime_39 : decode cX11_isPrime 39 = .ok (.iconst 1, 1) := by decide +kernel
theorem dX11_isPrime_40 : decode cX11_isPrime 40 = .ok (.ireturn, 1) := by decide +kernel
theorem dX11_kindOf_0 : decode cX11_kindOf 0 = .ok (.aload_n 0, 1) := by decide +kernel
theorem dX11_kindOf_1 : decode cX11_kindOf 1 = .ok (.iload_n 1, 1) := by decide +kernel
theorem dX11_kindOf_2 : decode cX11_kindOf 2 = .ok (.invokevirtual 76, 3) := by decide +kernel
theorem dX11_kindOf_5 : decode cX11_kindOf 5 = .ok (.ifCond .ne 42, 3) := by decide +kernel
theorem dX11_kindOf_8 : decode cX11_kindOf 8 = .ok (.aload_n 0, 1) := by decide +kernel
theorem dX11_kindOf_9 : decode cX11_kindOf 9 = .ok (.iload_n 1, 1) := by decide +kernel
theorem dX11_kindOf_10 : decode cX11_kindOf 10 = .ok (.invokevirtual 79, 3) := by decide +kernel
theorem dX11_kindOf_13 : decode cX11_kindOf 13 = .ok (.lconst 1, 1) := by decide +kernel
theorem dX11_kindOf_14 : decode cX11_kindOf 14 = .ok (.lcmp, 1) := by decide +kernel
theorem dX11_kindOf_15 : decode cX11_kindOf 15 = .ok (.ifCond .ne 32, 3) := by decide +kernel
theorem dX11_kindOf_18 : decode cX11_kindOf 18 = .ok (.aload_n 0, 1) := by decide +kernel
theorem dX11_kindOf_19 : decode cX11_kindOf 19 = .ok (.iload_n 1, 1) := by decide +kernel
theorem dX11_kindOf_20 : decode cX11_kindOf 20 = .ok (.invokevirtual 83, 3) := by decide +kernel
theorem dX11_kindOf_23 : decode cX11_kindOf 23 = .ok (.lstore_n 2, 1) := by decide +kernel
theorem dX11_kindOf_24 : decode cX11_kindOf 24 = .ok (.lload_n 2, 1) := by decide +kernel
theorem dX11_kindOf_25 : decode cX11_kindOf 25 = .ok (.lconst 1, 1) := by decide +kernel
theorem dX11_kindOf_26 : decode cX11_kindOf 26 = .ok (.lcmp, 1) := by decide +kernel
theorem dX11_kindOf_27 : decode cX11_kindOf 27 = .ok (.ifCond .ne 7, 3) := by decide +kernel
theorem dX11_kindOf_30 : decode cX11_kindOf 30 = .ok (.iconst 4, 1) := by decide +kernel
theorem dX11_kindOf_31 : decode cX11_kindOf 31 = .ok (.goto 15, 3) := by decide +kernel
theorem dX11_kindOf_34 : decode cX11_kindOf 34 = .ok (.lload_n 2, 1) := by decide +kernel
theorem dX11_kindOf_35 : decode cX11_kindOf 35 = .ok (.invokestatic 86, 3) := by decide +kernel
theorem dX11_kindOf_38 : decode cX11_kindOf 38 = .ok (.ifCond .eq 7, 3) := by decide +kernel
theorem dX11_kindOf_41 : decode cX11_kindOf 41 = .ok (.iconst 3, 1) := by decide +kernel
theorem dX11_kindOf_42 : decode cX11_kindOf 42 = .ok (.goto 4, 3) := by decide +kernel
theorem dX11_kindOf_45 : decode cX11_kindOf 45 = .ok (.iconst 2, 1) := by decide +kernel
theorem dX11_kindOf_46 : decode cX11_kindOf 46 = .ok (.ireturn, 1) := by decide +kernel
theorem dX11_kindOf_47 : decode cX11_kindOf 47 = .ok (.aload_n 0, 1) := by decide +kernel
theorem dX11_kindOf_48 : decode cX11_kindOf 48 = .ok (.getfield 33, 3) := by decide +kernel
theorem dX11_kindOf_51 : decode cX11_kindOf 51 = .ok (.iload_n 1, 1) := by decide +kernel
theorem dX11_kindOf_52 : decode cX11_kindOf 52 = .ok (.laload, 1) := by decide +kernel
theorem dX11_kindOf_53 : decode cX11_kindOf 53 = .ok (.ldc2_w 54, 3) := by decide +kernel
theorem dX11_kindOf_56 : decode cX11_kindOf 56 = .ok (.lrem, 1) := by decide +kernel
theorem dX11_kindOf_57 : decode cX11_kindOf 57 = .ok (.lconst 0, 1) := by decide +kernel
theorem dX11_kindOf_58 : decode cX11_kindOf 58 = .ok (.lcmp, 1) := by decide +kernel
theorem dX11_kindOf_59 : decode cX11_kindOf 59 = .ok (.ifCond .eq 7, 3) := by decide +kernel
theorem dX11_kindOf_62 : decode cX11_kindOf 62 = .ok (.iconst 1, 1) := by decide +kernel
theorem dX11_kindOf_63 : decode cX11_kindOf 63 = .ok (.goto 4, 3) := by decide +kernel
theorem dX11_kindOf_66 : decode cX11_kindOf 66 = .ok (.iconst 0, 1) := by decide +kernel
theorem dX11_kindOf_67 : decode cX11_kindOf 67 = .ok (.ireturn, 1) := by decide +kernel
theorem dX11_isOf_0 : decode cX11_isOf 0 = .ok (.iload_n 0, 1) := by decide +kernel
theorem dX11_isOf_1 : decode cX11_isOf 1 = .ok (.iload_n 1, 1) := by decide +kernel
theorem dX11_isOf_2 : decode cX11_isOf 2 = .ok (.if_icmp .eq 17, 3) := by decide +kernel
theorem dX11_isOf_5 : decode cX11_isOf 5 = .ok (.iload_n 1, 1) := by decide +kernel
theorem dX11_isOf_6 : decode cX11_isOf 6 = .ok (.ifCond .eq 13, 3) := by decide +kernel
theorem dX11_isOf_9 : decode cX11_isOf 9 = .ok (.iload_n 1, 1) := by decide +kernel
theorem dX11_isOf_10 : decode cX11_isOf 10 = .ok (.iconst 2, 1) := by decide +kernel
theorem dX11_isOf_11 : decode cX11_isOf 11 = .ok (.if_icmp .ne 12, 3) := by decide +kernel
theorem dX11_isOf_14 : decode cX11_isOf 14 = .ok (.iload_n 0, 1) := by decide +kernel
theorem dX11_isOf_15 : decode cX11_isOf 15 = .ok (.iconst 2, 1) := by decide +kernel
theorem dX11_isOf_16 : decode cX11_isOf 16 = .ok (.if_icmp .le 7, 3) := by decide +kernel
theorem dX11_isOf_19 : decode cX11_isOf 19 = .ok (.iconst 1, 1) := by decide +kernel
theorem dX11_isOf_20 : decode cX11_isOf 20 = .ok (.goto 4, 3) := by decide +kernel
theorem dX11_isOf_23 : decode cX11_isOf 23 = .ok (.iconst 0, 1) := by decide +kernel
theorem dX11_isOf_24 : decode cX11_isOf 24 = .ok (.ireturn, 1) := by decide +kernel
theorem dX11_isSlot_0 : decode cX11_isSlot 0 = .ok (.iload_n 0, 1) := by decide +kernel
theorem dX11_isSlot_1 : decode cX11_isSlot 1 = .ok (.i2l, 1) := by decide +kernel
theorem dX11_isSlot_2 : decode cX11_isSlot 2 = .ok (.lconst 0, 1) := by decide +kernel
theorem dX11_isSlot_3 : decode cX11_isSlot 3 = .ok (.ldc2_w 90, 3) := by decide +kernel
theorem dX11_isSlot_6 : decode cX11_isSlot 6 = .ok (.invokestatic 46, 3) := by decide +kernel
theorem dX11_isSlot_9 : decode cX11_isSlot 9 = .ok (.ireturn, 1) := by decide +kernel
theorem dX11_take_0 : decode cX11_take 0 = .ok (.iload_n 1, 1) := by decide +kernel
theorem dX11_take_1 : decode cX11_take 1 = .ok (.invokestatic 92, 3) := by decide +kernel
theorem dX11_take_4 : decode cX11_take 4 = .ok (.ifCond .eq 10, 3) := by decide +kernel
theorem dX11_take_7 : decode cX11_take 7 = .ok (.iload_n 2, 1) := by decide +kernel
theorem dX11_take_8 : decode cX11_take 8 = .ok (.invokestatic 50, 3) := by decide +kernel
theorem dX11_take_11 : decode cX11_take 11 = .ok (.ifCond .ne 6, 3) := by decide +kernel
theorem dX11_take_14 : decode cX11_take 14 = .ok (.ldc 56, 2) := by decide +kernel
theorem dX11_take_16 : decode cX11_take 16 = .ok (.ireturn, 1) := by decide +kernel
theorem dX11_take_17 : decode cX11_take 17 = .ok (.aload_n 0, 1) := by decide +kernel
theorem dX11_take_18 : decode cX11_take 18 = .ok (.getfield 17, 3) := by decide +kernel
theorem dX11_take_21 : decode cX11_take 21 = .ok (.iload_n 2, 1) := by decide +kernel
theorem dX11_take_22 : decode cX11_take 22 = .ok (.iaload, 1) := by decide +kernel
theorem dX11_take_23 : decode cX11_take 23 = .ok (.ifCond .ne 9, 3) := by decide +kernel
theorem dX11_take_26 : decode cX11_take 26 = .ok (.aload_n 0, 1) := by decide +kernel
theorem dX11_take_27 : decode cX11_take 27 = .ok (.iconst 1, 1) := by decide +kernel
theorem dX11_take_28 : decode cX11_take 28 = .ok (.invokevirtual 57, 3) := by decide +kernel
theorem dX11_take_31 : decode cX11_take 31 = .ok (.ireturn, 1) := by decide +kernel
theorem dX11_take_32 : decode cX11_take 32 = .ok (.iload_n 3, 1) := by decide +kernel
theorem dX11_take_33 : decode cX11_take 33 = .ok (.i2l, 1) := by decide +kernel
theorem dX11_take_34 : decode cX11_take 34 = .ok (.lconst 0, 1) := by decide +kernel
theorem dX11_take_35 : decode cX11_take 35 = .ok (.aload_n 0, 1) := by decide +kernel
theorem dX11_take_36 : decode cX11_take 36 = .ok (.getfield 21, 3) := by decide +kernel
theorem dX11_take_39 : decode cX11_take 39 = .ok (.iload_n 2, 1) := by decide +kernel
theorem dX11_take_40 : decode cX11_take 40 = .ok (.iaload, 1) := by decide +kernel
theorem dX11_take_41 : decode cX11_take 41 = .ok (.iconst 4, 1) := by decide +kernel
theorem dX11_take_42 : decode cX11_take 42 = .ok (.isub, 1) := by decide +kernel
theorem dX11_take_43 : decode cX11_take 43 = .ok (.i2l, 1) := by decide +kernel
theorem dX11_take_44 : decode cX11_take 44 = .ok (.invokestatic 46, 3) := by decide +kernel
theorem dX11_take_47 : decode cX11_take 47 = .ok (.ifCond .ne 9, 3) := by decide +kernel
theorem dX11_take_50 : decode cX11_take 50 = .ok (.aload_n 0, 1) := by decide +kernel
theorem dX11_take_51 : decode cX11_take 51 = .ok (.iconst 2, 1) := by decide +kernel
theorem dX11_take_52 : decode cX11_take 52 = .ok (.invokevirtual 57, 3) := by decide +kernel
theorem dX11_take_55 : decode cX11_take 55 = .ok (.ireturn, 1) := by decide +kernel
theorem dX11_take_56 : decode cX11_take 56 = .ok (.bipush 100, 2) := by decide +kernel
theorem dX11_take_58 : decode cX11_take 58 = .ok (.iload_n 2, 1) := by decide +kernel
theorem dX11_take_59 : decode cX11_take 59 = .ok (.imul, 1) := by decide +kernel
theorem dX11_take_60 : decode cX11_take 60 = .ok (.iload_n 3, 1) := by decide +kernel
theorem dX11_take_61 : decode cX11_take 61 = .ok (.iadd, 1) := by decide +kernel
theorem dX11_take_62 : decode cX11_take 62 = .ok (.istore 4, 2) := by decide +kernel
theorem dX11_take_64 : decode cX11_take 64 = .ok (.iconst 1, 1) := by decide +kernel
theorem dX11_take_65 : decode cX11_take 65 = .ok (.istore 5, 2) := by decide +kernel
theorem dX11_take_67 : decode cX11_take 67 = .ok (.iconst 1, 1) := by decide +kernel
theorem dX11_take_68 : decode cX11_take 68 = .ok (.istore 6, 2) := by decide +kernel
theorem dX11_take_70 : decode cX11_take 70 = .ok (.iconst 0, 1) := by decide +kernel
theorem dX11_take_71 : decode cX11_take 71 = .ok (.istore 7, 2) := by decide +kernel
theorem dX11_take_73 : decode cX11_take 73 = .ok (.iload 7, 2) := by decide +kernel
theorem dX11_take_75 : decode cX11_take 75 = .ok (.iconst 4, 1) := by decide +kernel
theorem dX11_take_76 : decode cX11_take 76 = .ok (.if_icmp .ge 80, 3) := by decide +kernel
theorem dX11_take_79 : decode cX11_take 79 = .ok (.iload 5, 2) := by decide +kernel
theorem dX11_take_81 : decode cX11_take 81 = .ok (.ifCond .eq 32, 3) := by decide +kernel
theorem dX11_take_84 : decode cX11_take 84 = .ok (.aload_n 0, 1) := by decide +kernel
theorem dX11_take_85 : decode cX11_take 85 = .ok (.getfield 24, 3) := by decide +kernel
theorem dX11_take_88 : decode cX11_take 88 = .ok (.iload 4, 2) := by decide +kernel
theorem dX11_take_90 : decode cX11_take 90 = .ok (.iload 7, 2) := by decide +kernel
theorem dX11_take_92 : decode cX11_take 92 = .ok (.iadd, 1) := by decide +kernel
theorem dX11_take_93 : decode cX11_take 93 = .ok (.laload, 1) := by decide +kernel
theorem dX11_take_94 : decode cX11_take 94 = .ok (.lconst 1, 1) := by decide +kernel
theorem dX11_take_95 : decode cX11_take 95 = .ok (.land, 1) := by decide +kernel
theorem dX11_take_96 : decode cX11_take 96 = .ok (.aload_n 0, 1) := by decide +kernel
theorem dX11_take_97 : decode cX11_take 97 = .ok (.getfield 24, 3) := by decide +kernel
theorem dX11_take_100 : decode cX11_take 100 = .ok (.iload 4, 2) := by decide +kernel
theorem dX11_take_102 : decode cX11_take 102 = .ok (.laload, 1) := by decide +kernel
theorem dX11_take_103 : decode cX11_take 103 = .ok (.lconst 1, 1) := by decide +kernel
theorem dX11_take_104 : decode cX11_take 104 = .ok (.land, 1) := by decide +kernel
theorem dX11_take_105 : decode cX11_take 105 = .ok (.lcmp, 1) := by decide +kernel
theorem dX11_take_106 : decode cX11_take 106 = .ok (.ifCond .ne 7, 3) := by decide +kernel
theorem dX11_take_109 : decode cX11_take 109 = .ok (.iconst 1, 1) := by decide +kernel
theorem dX11_take_110 : decode cX11_take 110 = .ok (.goto 4, 3) := by decide +kernel
theorem dX11_take_113 : decode cX11_take 113 = .ok (.iconst 0, 1) := by decide +kernel
theorem dX11_take_114 : decode cX11_take 114 = .ok (.istore 5, 2) := by decide +kernel
theorem dX11_take_116 : decode cX11_take 116 = .ok (.iload 6, 2) := by decide +kernel
theorem dX11_take_118 : decode cX11_take 118 = .ok (.ifCond .eq 29, 3) := by decide +kernel
theorem dX11_take_121 : decode cX11_take 121 = .ok (.aload_n 0, 1) := by decide +kernel
theorem dX11_take_122 : decode cX11_take 122 = .ok (.getfield 24, 3) := by decide +kernel
theorem dX11_take_125 : decode cX11_take 125 = .ok (.iload 4, 2) := by decide +kernel
theorem dX11_take_127 : decode cX11_take 127 = .ok (.iload 7, 2) := by decide +kernel
theorem dX11_take_129 : decode cX11_take 129 = .ok (.iadd, 1) := by decide +kernel
theorem dX11_take_130 : decode cX11_take 130 = .ok (.laload, 1) := by decide +kernel
theorem dX11_take_131 : decode cX11_take 131 = .ok (.ldc2_w 95, 3) := by decide +kernel
theorem dX11_take_134 : decode cX11_take 134 = .ok (.ldc2_w 97, 3) := by decide +kernel
theorem dX11_take_137 : decode cX11_take 137 = .ok (.invokestatic 46, 3) := by decide +kernel
theorem dX11_take_140 : decode cX11_take 140 = .ok (.ifCond .eq 7, 3) := by decide +kernel
theorem dX11_take_143 : decode cX11_take 143 = .ok (.iconst 1, 1) := by decide +kernel
theorem dX11_take_144 : decode cX11_take 144 = .ok (.goto 4, 3) := by decide +kernel
theorem dX11_take_147 : decode cX11_take 147 = .ok (.iconst 0, 1) := by decide +kernel
theorem dX11_take_148 : decode cX11_take 148 = .ok (.istore 6, 2) := by decide +kernel
theorem dX11_take_150 : decode cX11_take 150 = .ok (.iinc 7 1, 3) := by decide +kernel
theorem dX11_take_153 : decode cX11_take 153 = .ok (.goto (-80), 3) := by decide +kernel
theorem dX11_take_156 : decode cX11_take 156 = .ok (.iload 5, 2) := by decide +kernel
theorem dX11_take_158 : decode cX11_take 158 = .ok (.ifCond .ne 6, 3) := by decide +kernel
theorem dX11_take_161 : decode cX11_take 161 = .ok (.ldc 56, 2) := by decide +kernel
theorem dX11_take_163 : decode cX11_take 163 = .ok (.ireturn, 1) := by decide +kernel
theorem dX11_take_164 : decode cX11_take 164 = .ok (.iload 6, 2) := by decide +kernel
theorem dX11_take_166 : decode cX11_take 166 = .ok (.ifCond .ne 6, 3) := by decide +kernel
theorem dX11_take_169 : decode cX11_take 169 = .ok (.ldc 99, 2) := by decide +kernel
theorem dX11_take_171 : decode cX11_take 171 = .ok (.ireturn, 1) := by decide +kernel
theorem dX11_take_172 : decode cX11_take 172 = .ok (.aload_n 0, 1) := by decide +kernel
theorem dX11_take_173 : decode cX11_take 173 = .ok (.iconst 0, 1) := by decide +kernel
theorem dX11_take_174 : decode cX11_take 174 = .ok (.aload_n 0, 1) := by decide +kernel
theorem dX11_take_175 : decode cX11_take 175 = .ok (.getfield 24, 3) := by decide +kernel
theorem dX11_take_178 : decode cX11_take 178 = .ok (.iload 4, 2) := by decide +kernel
theorem dX11_take_180 : decode cX11_take 180 = .ok (.laload, 1) := by decide +kernel
theorem dX11_take_181 : decode cX11_take 181 = .ok (.aload_n 0, 1) := by decide +kernel
theorem dX11_take_182 : decode cX11_take 182 = .ok (.getfield 24, 3) := by decide +kernel
theorem dX11_take_185 : decode cX11_take 185 = .ok (.iload 4, 2) := by decide +kernel
theorem dX11_take_187 : decode cX11_take 187 = .ok (.iconst 1, 1) := by decide +kernel
theorem dX11_take_188 : decode cX11_take 188 = .ok (.iadd, 1) := by decide +kernel
theorem dX11_take_189 : decode cX11_take 189 = .ok (.laload, 1) := by decide +kernel
theorem dX11_take_190 : decode cX11_take 190 = .ok (.aload_n 0, 1) := by decide +kernel
theorem dX11_take_191 : decode cX11_take 191 = .ok (.getfield 24, 3) := by decide +kernel
theorem dX11_take_194 : decode cX11_take 194 = .ok (.iload 4, 2) := by decide +kernel
theorem dX11_take_196 : decode cX11_take 196 = .ok (.iconst 2, 1) := by decide +kernel
theorem dX11_take_197 : decode cX11_take 197 = .ok (.iadd, 1) := by decide +kernel
theorem dX11_take_198 : decode cX11_take 198 = .ok (.laload, 1) := by decide +kernel
theorem dX11_take_199 : decode cX11_take 199 = .ok (.aload_n 0, 1) := by decide +kernel
theorem dX11_take_200 : decode cX11_take 200 = .ok (.getfield 24, 3) := by decide +kernel
theorem dX11_take_203 : decode cX11_take 203 = .ok (.iload 4, 2) := by decide +kernel
theorem dX11_take_205 : decode cX11_take 205 = .ok (.iconst 3, 1) := by decide +kernel
theorem dX11_take_206 : decode cX11_take 206 = .ok (.iadd, 1) := by decide +kernel
theorem dX11_take_207 : decode cX11_take 207 = .ok (.laload, 1) := by decide +kernel
theorem dX11_take_208 : decode cX11_take 208 = .ok (.invokevirtual 68, 3) := by decide +kernel
theorem dX11_take_211 : decode cX11_take 211 = .ok (.aload_n 0, 1) := by decide +kernel
theorem dX11_take_212 : decode cX11_take 212 = .ok (.iconst 0, 1) := by decide +kernel
theorem dX11_take_213 : decode cX11_take 213 = .ok (.invokevirtual 83, 3) := by decide +kernel
theorem dX11_take_216 : decode cX11_take 216 = .ok (.ldc2_w 100, 3) := by decide +kernel
theorem dX11_take_219 : decode cX11_take 219 = .ok (.lcmp, 1) := by decide +kernel
theorem dX11_take_220 : decode cX11_take 220 = .ok (.ifCond .le 6, 3) := by decide +kernel
theorem dX11_take_223 : decode cX11_take 223 = .ok (.ldc 99, 2) := by decide +kernel
theorem dX11_take_225 : decode cX11_take 225 = .ok (.ireturn, 1) := by decide +kernel
theorem dX11_take_226 : decode cX11_take 226 = .ok (.aload_n 0, 1) := by decide +kernel
theorem dX11_take_227 : decode cX11_take 227 = .ok (.iload_n 1, 1) := by decide +kernel
theorem dX11_take_228 : decode cX11_take 228 = .ok (.iconst 0, 1) := by decide +kernel
theorem dX11_take_229 : decode cX11_take 229 = .ok (.invokevirtual 102, 3) := by decide +kernel
theorem dX11_take_232 : decode cX11_take 232 = .ok (.aload_n 0, 1) := by decide +kernel
theorem dX11_take_233 : decode cX11_take 233 = .ok (.aload_n 0, 1) := by decide +kernel
theorem dX11_take_234 : decode cX11_take 234 = .ok (.iconst 0, 1) := by decide +kernel
theorem dX11_take_235 : decode cX11_take 235 = .ok (.invokevirtual 106, 3) := by decide +kernel
theorem dX11_take_238 : decode cX11_take 238 = .ok (.invokevirtual 61, 3) := by decide +kernel
theorem dX11_take_241 : decode cX11_take 241 = .ok (.ireturn, 1) := by decide +kernel
theorem dX11_clear_0 : decode cX11_clear 0 = .ok (.iload_n 1, 1) := by decide +kernel
theorem dX11_clear_1 : decode cX11_clear 1 = .ok (.invokestatic 92, 3) := by decide +kernel
theorem dX11_clear_4 : decode cX11_clear 4 = .ok (.ifCond .ne 6, 3) := by decide +kernel
theorem dX11_clear_7 : decode cX11_clear 7 = .ok (.ldc 56, 2) := by decide +kernel
theorem dX11_clear_9 : decode cX11_clear 9 = .ok (.ireturn, 1) := by decide +kernel
theorem dX11_clear_10 : decode cX11_clear 10 = .ok (.aload_n 0, 1) := by decide +kernel
theorem dX11_clear_11 : decode cX11_clear 11 = .ok (.getfield 7, 3) := by decide +kernel
theorem dX11_clear_14 : decode cX11_clear 14 = .ok (.iload_n 1, 1) := by decide +kernel
theorem dX11_clear_15 : decode cX11_clear 15 = .ok (.baload, 1) := by decide +kernel
theorem dX11_clear_16 : decode cX11_clear 16 = .ok (.ifCond .eq 7, 3) := by decide +kernel
theorem dX11_clear_19 : decode cX11_clear 19 = .ok (.iconst 1, 1) := by decide +kernel
theorem dX11_clear_20 : decode cX11_clear 20 = .ok (.goto 4, 3) := by decide +kernel
theorem dX11_clear_23 : decode cX11_clear 23 = .ok (.iconst 0, 1) := by decide +kernel
theorem dX11_clear_24 : decode cX11_clear 24 = .ok (.istore_n 2, 1) := by decide +kernel
theorem dX11_clear_25 : decode cX11_clear 25 = .ok (.aload_n 0, 1) := by decide +kernel
theorem dX11_clear_26 : decode cX11_clear 26 = .ok (.getfield 7, 3) := by decide +kernel
theorem dX11_clear_29 : decode cX11_clear 29 = .ok (.iload_n 1, 1) := by decide +kernel
theorem dX11_clear_30 : decode cX11_clear 30 = .ok (.iconst 0, 1) := by decide +kernel
theorem dX11_clear_31 : decode cX11_clear 31 = .ok (.bastore, 1) := by decide +kernel
theorem dX11_clear_32 : decode cX11_clear 32 = .ok (.iload_n 2, 1) := by decide +kernel
theorem dX11_clear_33 : decode cX11_clear 33 = .ok (.ireturn, 1) := by decide +kernel
theorem dX11_number_0 : decode cX11_number 0 = .ok (.iload_n 1, 1) := by decide +kernel
theorem dX11_number_1 : decode cX11_number 1 = .ok (.invokestatic 92, 3) := by decide +kernel
theorem dX11_number_4 : decode cX11_number 4 = .ok (.ifCond .eq 15, 3) := by decide +kernel
theorem dX11_number_7 : decode cX11_number 7 = .ok (.iload_n 2, 1) := by decide +kernel
theorem dX11_number_8 : decode cX11_number 8 = .ok (.i2l, 1) := by decide +kernel
theorem dX11_number_9 : decode cX11_number 9 = .ok (.lconst 0, 1) := by decide +kernel
theorem dX11_number_10 : decode cX11_number 10 = .ok (.ldc2_w 109, 3) := by decide +kernel
theorem dX11_number_13 : decode cX11_number 13 = .ok (.invokestatic 46, 3) := by decide +kernel
theorem dX11_number_16 : decode cX11_number 16 = .ok (.ifCond .ne 7, 3) := by decide +kernel
theorem dX11_number_19 : decode cX11_number 19 = .ok (.ldc2_w 64, 3) := by decide +kernel
theorem dX11_number_22 : decode cX11_number 22 = .ok (.lreturn, 1) := by decide +kernel
theorem dX11_number_23 : decode cX11_number 23 = .ok (.aload_n 0, 1) := by decide +kernel
theorem dX11_number_24 : decode cX11_number 24 = .ok (.getfield 7, 3) := by decide +kernel
theorem dX11_number_27 : decode cX11_number 27 = .ok (.iload_n 1, 1) := by decide +kernel
theorem dX11_number_28 : decode cX11_number 28 = .ok (.baload, 1) := by decide +kernel
theorem dX11_number_29 : decode cX11_number 29 = .ok (.ifCond .ne 10, 3) := by decide +kernel
theorem dX11_number_32 : decode cX11_number 32 = .ok (.aload_n 0, 1) := by decide +kernel
theorem dX11_number_33 : decode cX11_number 33 = .ok (.iconst 1, 1) := by decide +kernel
theorem dX11_number_34 : decode cX11_number 34 = .ok (.invokevirtual 57, 3) := by decide +kernel
theorem dX11_number_37 : decode cX11_number 37 = .ok (.i2l, 1) := by decide +kernel
theorem dX11_number_38 : decode cX11_number 38 = .ok (.lreturn, 1) := by decide +kernel
theorem dX11_number_39 : decode cX11_number 39 = .ok (.aload_n 0, 1) := by decide +kernel
theorem dX11_number_40 : decode cX11_number 40 = .ok (.iconst 0, 1) := by decide +kernel
theorem dX11_number_41 : decode cX11_number 41 = .ok (.putfield 39, 3) := by decide +kernel
theorem dX11_number_44 : decode cX11_number 44 = .ok (.aload_n 0, 1) := by decide +kernel
theorem dX11_number_45 : decode cX11_number 45 = .ok (.getfield 13, 3) := by decide +kernel
theorem dX11_number_48 : decode cX11_number 48 = .ok (.iconst 4, 1) := by decide +kernel
theorem dX11_number_49 : decode cX11_number 49 = .ok (.iload_n 1, 1) := by decide +kernel
theorem dX11_number_50 : decode cX11_number 50 = .ok (.imul, 1) := by decide +kernel
theorem dX11_number_51 : decode cX11_number 51 = .ok (.iload_n 2, 1) := by decide +kernel
theorem dX11_number_52 : decode cX11_number 52 = .ok (.iadd, 1) := by decide +kernel
theorem dX11_number_53 : decode cX11_number 53 = .ok (.laload, 1) := by decide +kernel
theorem dX11_number_54 : decode cX11_number 54 = .ok (.lreturn, 1) := by decide +kernel
theorem dX11_norm_0 : decode cX11_norm 0 = .ok (.iload_n 1, 1) := by decide +kernel
theorem dX11_norm_1 : decode cX11_norm 1 = .ok (.invokestatic 92, 3) := by decide +kernel
theorem dX11_norm_4 : decode cX11_norm 4 = .ok (.ifCond .ne 6, 3) := by decide +kernel
theorem dX11_norm_7 : decode cX11_norm 7 = .ok (.ldc 56, 2) := by decide +kernel
theorem dX11_norm_9 : decode cX11_norm 9 = .ok (.ireturn, 1) := by decide +kernel
theorem dX11_norm_10 : decode cX11_norm 10 = .ok (.aload_n 0, 1) := by decide +kernel
theorem dX11_norm_11 : decode cX11_norm 11 = .ok (.getfield 7, 3) := by decide +kernel
theorem dX11_norm_14 : decode cX11_norm 14 = .ok (.iload_n 1, 1) := by decide +kernel
theorem dX11_norm_15 : decode cX11_norm 15 = .ok (.baload, 1) := by decide +kernel
theorem dX11_norm_16 : decode cX11_norm 16 = .ok (.ifCond .ne 9, 3) := by decide +kernel
theorem dX11_norm_19 : decode cX11_norm 19 = .ok (.aload_n 0, 1) := by decide +kernel
theorem dX11_norm_20 : decode cX11_norm 20 = .ok (.iconst 1, 1) := by decide +kernel
theorem dX11_norm_21 : decode cX11_norm 21 = .ok (.invokevirtual 57, 3) := by decide +kernel
theorem dX11_norm_24 : decode cX11_norm 24 = .ok (.ireturn, 1) := by decide +kernel
theorem dX11_norm_25 : decode cX11_norm 25 = .ok (.aload_n 0, 1) := by decide +kernel
theorem dX11_norm_26 : decode cX11_norm 26 = .ok (.iconst 0, 1) := by decide +kernel
theorem dX11_norm_27 : decode cX11_norm 27 = .ok (.iload_n 1, 1) := by decide +kernel
theorem dX11_norm_28 : decode cX11_norm 28 = .ok (.invokevirtual 111, 3) := by decide +kernel
theorem dX11_norm_31 : decode cX11_norm 31 = .ok (.aload_n 0, 1) := by decide +kernel
theorem dX11_norm_32 : decode cX11_norm 32 = .ok (.aload_n 0, 1) := by decide +kernel
theorem dX11_norm_33 : decode cX11_norm 33 = .ok (.iconst 0, 1) := by decide +kernel
theorem dX11_norm_34 : decode cX11_norm 34 = .ok (.invokevirtual 83, 3) := by decide +kernel
theorem dX11_norm_37 : decode cX11_norm 37 = .ok (.l2i, 1) := by decide +kernel
theorem dX11_norm_38 : decode cX11_norm 38 = .ok (.invokevirtual 61, 3) := by decide +kernel
theorem dX11_norm_41 : decode cX11_norm 41 = .ok (.ireturn, 1) := by decide +kernel
theorem dX11_kind_0 : decode cX11_kind 0 = .ok (.iload_n 1, 1) := by decide +kernel
theorem dX11_kind_1 : decode cX11_kind 1 = .ok (.invokestatic 92, 3) := by decide +kernel
theorem dX11_kind_4 : decode cX11_kind 4 = .ok (.ifCond .ne 6, 3) := by decide +kernel
theorem dX11_kind_7 : decode cX11_kind 7 = .ok (.ldc 56, 2) := by decide +kernel
theorem dX11_kind_9 : decode cX11_kind 9 = .ok (.ireturn, 1) := by decide +kernel
theorem dX11_kind_10 : decode cX11_kind 10 = .ok (.aload_n 0, 1) := by decide +kernel
theorem dX11_kind_11 : decode cX11_kind 11 = .ok (.getfield 7, 3) := by decide +kernel
theorem dX11_kind_14 : decode cX11_kind 14 = .ok (.iload_n 1, 1) := by decide +kernel
theorem dX11_kind_15 : decode cX11_kind 15 = .ok (.baload, 1) := by decide +kernel
theorem dX11_kind_16 : decode cX11_kind 16 = .ok (.ifCond .ne 9, 3) := by decide +kernel
theorem dX11_kind_19 : decode cX11_kind 19 = .ok (.aload_n 0, 1) := by decide +kernel
theorem dX11_kind_20 : decode cX11_kind 20 = .ok (.iconst 1, 1) := by decide +kernel
theorem dX11_kind_21 : decode cX11_kind 21 = .ok (.invokevirtual 57, 3) := by decide +kernel
theorem dX11_kind_24 : decode cX11_kind 24 = .ok (.ireturn, 1) := by decide +kernel
theorem dX11_kind_25 : decode cX11_kind 25 = .ok (.aload_n 0, 1) := by decide +kernel
theorem dX11_kind_26 : decode cX11_kind 26 = .ok (.iconst 0, 1) := by decide +kernel
theorem dX11_kind_27 : decode cX11_kind 27 = .ok (.iload_n 1, 1) := by decide +kernel
theorem dX11_kind_28 : decode cX11_kind 28 = .ok (.invokevirtual 111, 3) := by decide +kernel
theorem dX11_kind_31 : decode cX11_kind 31 = .ok (.aload_n 0, 1) := by decide +kernel
theorem dX11_kind_32 : decode cX11_kind 32 = .ok (.aload_n 0, 1) := by decide +kernel
theorem dX11_kind_33 : decode cX11_kind 33 = .ok (.iconst 0, 1) := by decide +kernel
theorem dX11_kind_34 : decode cX11_kind 34 = .ok (.invokevirtual 106, 3) := by decide +kernel
theorem dX11_kind_37 : decode cX11_kind 37 = .ok (.invokevirtual 61, 3) := by decide +kernel
theorem dX11_kind_40 : decode cX11_kind 40 = .ok (.ireturn, 1) := by decide +kernel
theorem dX11_is_0 : decode cX11_is 0 = .ok (.iload_n 1, 1) := by decide +kernel
theorem dX11_is_1 : decode cX11_is 1 = .ok (.invokestatic 92, 3) := by decide +kernel
theorem dX11_is_4 : decode cX11_is 4 = .ok (.ifCond .eq 15, 3) := by decide +kernel
theorem dX11_is_7 : decode cX11_is 7 = .ok (.iload_n 2, 1) := by decide +kernel
theorem dX11_is_8 : decode cX11_is 8 = .ok (.i2l, 1) := by decide +kernel
theorem dX11_is_9 : decode cX11_is 9 = .ok (.lconst 0, 1) := by decide +kernel
theorem dX11_is_10 : decode cX11_is 10 = .ok (.ldc2_w 66, 3) := by decide +kernel
theorem dX11_is_13 : decode cX11_is 13 = .ok (.invokestatic 46, 3) := by decide +kernel
theorem dX11_is_16 : decode cX11_is 16 = .ok (.ifCond .ne 6, 3) := by decide +kernel
theorem dX11_is_19 : decode cX11_is 19 = .ok (.ldc 56, 2) := by decide +kernel
theorem dX11_is_21 : decode cX11_is 21 = .ok (.ireturn, 1) := by decide +kernel
theorem dX11_is_22 : decode cX11_is 22 = .ok (.aload_n 0, 1) := by decide +kernel
theorem dX11_is_23 : decode cX11_is 23 = .ok (.getfield 7, 3) := by decide +kernel
theorem dX11_is_26 : decode cX11_is 26 = .ok (.iload_n 1, 1) := by decide +kernel
theorem dX11_is_27 : decode cX11_is 27 = .ok (.baload, 1) := by decide +kernel
theorem dX11_is_28 : decode cX11_is 28 = .ok (.ifCond .ne 9, 3) := by decide +kernel
theorem dX11_is_31 : decode cX11_is 31 = .ok (.aload_n 0, 1) := by decide +kernel
theorem dX11_is_32 : decode cX11_is 32 = .ok (.iconst 1, 1) := by decide +kernel
theorem dX11_is_33 : decode cX11_is 33 = .ok (.invokevirtual 57, 3) := by decide +kernel
theorem dX11_is_36 : decode cX11_is 36 = .ok (.ireturn, 1) := by decide +kernel
theorem dX11_is_37 : decode cX11_is 37 = .ok (.aload_n 0, 1) := by decide +kernel
theorem dX11_is_38 : decode cX11_is 38 = .ok (.iconst 0, 1) := by decide +kernel
theorem dX11_is_39 : decode cX11_is 39 = .ok (.iload_n 1, 1) := by decide +kernel
theorem dX11_is_40 : decode cX11_is 40 = .ok (.invokevirtual 111, 3) := by decide +kernel
theorem dX11_is_43 : decode cX11_is 43 = .ok (.aload_n 0, 1) := by decide +kernel
theorem dX11_is_44 : decode cX11_is 44 = .ok (.aload_n 0, 1) := by decide +kernel
theorem dX11_is_45 : decode cX11_is 45 = .ok (.iconst 0, 1) := by decide +kernel
theorem dX11_is_46 : decode cX11_is 46 = .ok (.invokevirtual 106, 3) := by decide +kernel
theorem dX11_is_49 : decode cX11_is 49 = .ok (.iload_n 2, 1) := by decide +kernel
theorem dX11_is_50 : decode cX11_is 50 = .ok (.invokestatic 114, 3) := by decide +kernel
theorem dX11_is_53 : decode cX11_is 53 = .ok (.ifCond .eq 7, 3) := by decide +kernel
theorem dX11_is_56 : decode cX11_is 56 = .ok (.iconst 1, 1) := by decide +kernel
theorem dX11_is_57 : decode cX11_is 57 = .ok (.goto 4, 3) := by decide +kernel
theorem dX11_is_60 : decode cX11_is 60 = .ok (.iconst 0, 1) := by decide +kernel
theorem dX11_is_61 : decode cX11_is 61 = .ok (.invokevirtual 61, 3) := by decide +kernel
theorem dX11_is_64 : decode cX11_is 64 = .ok (.ireturn, 1) := by decide +kernel
theorem dX11_as_0 : decode cX11_as 0 = .ok (.iload_n 1, 1) := by decide +kernel
theorem dX11_as_1 : decode cX11_as 1 = .ok (.invokestatic 92, 3) := by decide +kernel
theorem dX11_as_4 : decode cX11_as 4 = .ok (.ifCond .eq 15, 3) := by decide +kernel
theorem dX11_as_7 : decode cX11_as 7 = .ok (.iload_n 2, 1) := by decide +kernel
theorem dX11_as_8 : decode cX11_as 8 = .ok (.i2l, 1) := by decide +kernel
theorem dX11_as_9 : decode cX11_as 9 = .ok (.lconst 0, 1) := by decide +kernel
theorem dX11_as_10 : decode cX11_as 10 = .ok (.ldc2_w 66, 3) := by decide +kernel
theorem dX11_as_13 : decode cX11_as 13 = .ok (.invokestatic 46, 3) := by decide +kernel
theorem dX11_as_16 : decode cX11_as 16 = .ok (.ifCond .ne 6, 3) := by decide +kernel
theorem dX11_as_19 : decode cX11_as 19 = .ok (.ldc 56, 2) := by decide +kernel
theorem dX11_as_21 : decode cX11_as 21 = .ok (.ireturn, 1) := by decide +kernel
theorem dX11_as_22 : decode cX11_as 22 = .ok (.aload_n 0, 1) := by decide +kernel
theorem dX11_as_23 : decode cX11_as 23 = .ok (.getfield 7, 3) := by decide +kernel
theorem dX11_as_26 : decode cX11_as 26 = .ok (.iload_n 1, 1) := by decide +kernel
theorem dX11_as_27 : decode cX11_as 27 = .ok (.baload, 1) := by decide +kernel
theorem dX11_as_28 : decode cX11_as 28 = .ok (.ifCond .ne 9, 3) := by decide +kernel
theorem dX11_as_31 : decode cX11_as 31 = .ok (.aload_n 0, 1) := by decide +kernel
theorem dX11_as_32 : decode cX11_as 32 = .ok (.iconst 1, 1) := by decide +kernel
theorem dX11_as_33 : decode cX11_as 33 = .ok (.invokevirtual 57, 3) := by decide +kernel
theorem dX11_as_36 : decode cX11_as 36 = .ok (.ireturn, 1) := by decide +kernel
theorem dX11_as_37 : decode cX11_as 37 = .ok (.aload_n 0, 1) := by decide +kernel
theorem dX11_as_38 : decode cX11_as 38 = .ok (.iconst 0, 1) := by decide +kernel
theorem dX11_as_39 : decode cX11_as 39 = .ok (.iload_n 1, 1) := by decide +kernel
theorem dX11_as_40 : decode cX11_as 40 = .ok (.invokevirtual 111, 3) := by decide +kernel
theorem dX11_as_43 : decode cX11_as 43 = .ok (.aload_n 0, 1) := by decide +kernel
theorem dX11_as_44 : decode cX11_as 44 = .ok (.iconst 0, 1) := by decide +kernel
theorem dX11_as_45 : decode cX11_as 45 = .ok (.invokevirtual 106, 3) := by decide +kernel
theorem dX11_as_48 : decode cX11_as 48 = .ok (.iload_n 2, 1) := by decide +kernel
theorem dX11_as_49 : decode cX11_as 49 = .ok (.invokestatic 114, 3) := by decide +kernel
theorem dX11_as_52 : decode cX11_as 52 = .ok (.ifCond .eq 16, 3) := by decide +kernel
theorem dX11_as_55 : decode cX11_as 55 = .ok (.aload_n 0, 1) := by decide +kernel
theorem dX11_as_56 : decode cX11_as 56 = .ok (.aload_n 0, 1) := by decide +kernel
theorem dX11_as_57 : decode cX11_as 57 = .ok (.iconst 0, 1) := by decide +kernel
