theorem dX11_as_58 : decode cX11_as 58 = .ok (.invokevirtual 83, 3) := by decide +kernel
theorem dX11_as_61 : decode cX11_as 61 = .ok (.l2i, 1) := by decide +kernel
theorem dX11_as_62 : decode cX11_as 62 = .ok (.invokevirtual 61, 3) := by decide +kernel
theorem dX11_as_65 : decode cX11_as 65 = .ok (.goto 8, 3) := by decide +kernel
theorem dX11_as_68 : decode cX11_as 68 = .ok (.aload_n 0, 1) := by decide +kernel
theorem dX11_as_69 : decode cX11_as 69 = .ok (.iconst 3, 1) := by decide +kernel
theorem dX11_as_70 : decode cX11_as 70 = .ok (.invokevirtual 57, 3) := by decide +kernel
theorem dX11_as_73 : decode cX11_as 73 = .ok (.ireturn, 1) := by decide +kernel
theorem dX11_begins_0 : decode cX11_begins 0 = .ok (.aload_n 0, 1) := by decide +kernel
theorem dX11_begins_1 : decode cX11_begins 1 = .ok (.getfield 118, 3) := by decide +kernel
theorem dX11_begins_4 : decode cX11_begins 4 = .ok (.bipush 16, 2) := by decide +kernel
theorem dX11_begins_6 : decode cX11_begins 6 = .ok (.if_icmp .ge 23, 3) := by decide +kernel
theorem dX11_begins_9 : decode cX11_begins 9 = .ok (.aload_n 0, 1) := by decide +kernel
theorem dX11_begins_10 : decode cX11_begins 10 = .ok (.getfield 30, 3) := by decide +kernel
theorem dX11_begins_13 : decode cX11_begins 13 = .ok (.aload_n 0, 1) := by decide +kernel
theorem dX11_begins_14 : decode cX11_begins 14 = .ok (.getfield 118, 3) := by decide +kernel
theorem dX11_begins_17 : decode cX11_begins 17 = .ok (.iload_n 1, 1) := by decide +kernel
theorem dX11_begins_18 : decode cX11_begins 18 = .ok (.iastore, 1) := by decide +kernel
theorem dX11_begins_19 : decode cX11_begins 19 = .ok (.aload_n 0, 1) := by decide +kernel
theorem dX11_begins_20 : decode cX11_begins 20 = .ok (.dup, 1) := by decide +kernel
theorem dX11_begins_21 : decode cX11_begins 21 = .ok (.getfield 118, 3) := by decide +kernel
theorem dX11_begins_24 : decode cX11_begins 24 = .ok (.iconst 1, 1) := by decide +kernel
theorem dX11_begins_25 : decode cX11_begins 25 = .ok (.iadd, 1) := by decide +kernel
theorem dX11_begins_26 : decode cX11_begins 26 = .ok (.putfield 118, 3) := by decide +kernel
theorem dX11_begins_29 : decode cX11_begins 29 = .ok (.return_, 1) := by decide +kernel
theorem dX11_sizeOf_0 : decode cX11_sizeOf 0 = .ok (.iload_n 1, 1) := by decide +kernel
theorem dX11_sizeOf_1 : decode cX11_sizeOf 1 = .ok (.iconst 4, 1) := by decide +kernel
theorem dX11_sizeOf_2 : decode cX11_sizeOf 2 = .ok (.if_icmp .ne 11, 3) := by decide +kernel
theorem dX11_sizeOf_5 : decode cX11_sizeOf 5 = .ok (.aload_n 0, 1) := by decide +kernel
theorem dX11_sizeOf_6 : decode cX11_sizeOf 6 = .ok (.bipush 11, 2) := by decide +kernel
theorem dX11_sizeOf_8 : decode cX11_sizeOf 8 = .ok (.invokevirtual 121, 3) := by decide +kernel
theorem dX11_sizeOf_11 : decode cX11_sizeOf 11 = .ok (.iconst 1, 1) := by decide +kernel
theorem dX11_sizeOf_12 : decode cX11_sizeOf 12 = .ok (.ireturn, 1) := by decide +kernel
theorem dX11_sizeOf_13 : decode cX11_sizeOf 13 = .ok (.iload_n 1, 1) := by decide +kernel
theorem dX11_sizeOf_14 : decode cX11_sizeOf 14 = .ok (.iconst 3, 1) := by decide +kernel
theorem dX11_sizeOf_15 : decode cX11_sizeOf 15 = .ok (.if_icmp .ne 9, 3) := by decide +kernel
theorem dX11_sizeOf_18 : decode cX11_sizeOf 18 = .ok (.aload_n 0, 1) := by decide +kernel
theorem dX11_sizeOf_19 : decode cX11_sizeOf 19 = .ok (.bipush 12, 2) := by decide +kernel
theorem dX11_sizeOf_21 : decode cX11_sizeOf 21 = .ok (.invokevirtual 121, 3) := by decide +kernel
theorem dX11_sizeOf_24 : decode cX11_sizeOf 24 = .ok (.aload_n 0, 1) := by decide +kernel
theorem dX11_sizeOf_25 : decode cX11_sizeOf 25 = .ok (.bipush 10, 2) := by decide +kernel
theorem dX11_sizeOf_27 : decode cX11_sizeOf 27 = .ok (.invokevirtual 121, 3) := by decide +kernel
theorem dX11_sizeOf_30 : decode cX11_sizeOf 30 = .ok (.aload_n 0, 1) := by decide +kernel
theorem dX11_sizeOf_31 : decode cX11_sizeOf 31 = .ok (.iconst 0, 1) := by decide +kernel
theorem dX11_sizeOf_32 : decode cX11_sizeOf 32 = .ok (.invokevirtual 83, 3) := by decide +kernel
theorem dX11_sizeOf_35 : decode cX11_sizeOf 35 = .ok (.ldc2_w 125, 3) := by decide +kernel
theorem dX11_sizeOf_38 : decode cX11_sizeOf 38 = .ok (.lrem, 1) := by decide +kernel
theorem dX11_sizeOf_39 : decode cX11_sizeOf 39 = .ok (.l2i, 1) := by decide +kernel
theorem dX11_sizeOf_40 : decode cX11_sizeOf 40 = .ok (.iload_n 1, 1) := by decide +kernel
theorem dX11_sizeOf_41 : decode cX11_sizeOf 41 = .ok (.iconst 3, 1) := by decide +kernel
theorem dX11_sizeOf_42 : decode cX11_sizeOf 42 = .ok (.if_icmp .ne 7, 3) := by decide +kernel
theorem dX11_sizeOf_45 : decode cX11_sizeOf 45 = .ok (.iconst 2, 1) := by decide +kernel
theorem dX11_sizeOf_46 : decode cX11_sizeOf 46 = .ok (.goto 4, 3) := by decide +kernel
theorem dX11_sizeOf_49 : decode cX11_sizeOf 49 = .ok (.iconst 0, 1) := by decide +kernel
theorem dX11_sizeOf_50 : decode cX11_sizeOf 50 = .ok (.iadd, 1) := by decide +kernel
theorem dX11_sizeOf_51 : decode cX11_sizeOf 51 = .ok (.ireturn, 1) := by decide +kernel
theorem dX11_share_0 : decode cX11_share 0 = .ok (.iload_n 1, 1) := by decide +kernel
theorem dX11_share_1 : decode cX11_share 1 = .ok (.iconst 1, 1) := by decide +kernel
theorem dX11_share_2 : decode cX11_share 2 = .ok (.if_icmp .ne 9, 3) := by decide +kernel
theorem dX11_share_5 : decode cX11_share 5 = .ok (.aload_n 0, 1) := by decide +kernel
theorem dX11_share_6 : decode cX11_share 6 = .ok (.bipush 21, 2) := by decide +kernel
theorem dX11_share_8 : decode cX11_share 8 = .ok (.invokevirtual 121, 3) := by decide +kernel
theorem dX11_share_11 : decode cX11_share 11 = .ok (.iload_n 1, 1) := by decide +kernel
theorem dX11_share_12 : decode cX11_share 12 = .ok (.iconst 4, 1) := by decide +kernel
theorem dX11_share_13 : decode cX11_share 13 = .ok (.if_icmp .ne 9, 3) := by decide +kernel
theorem dX11_share_16 : decode cX11_share 16 = .ok (.aload_n 0, 1) := by decide +kernel
theorem dX11_share_17 : decode cX11_share 17 = .ok (.bipush 23, 2) := by decide +kernel
theorem dX11_share_19 : decode cX11_share 19 = .ok (.invokevirtual 121, 3) := by decide +kernel
theorem dX11_share_22 : decode cX11_share 22 = .ok (.iload_n 1, 1) := by decide +kernel
theorem dX11_share_23 : decode cX11_share 23 = .ok (.iconst 1, 1) := by decide +kernel
theorem dX11_share_24 : decode cX11_share 24 = .ok (.if_icmp .le 9, 3) := by decide +kernel
theorem dX11_share_27 : decode cX11_share 27 = .ok (.aload_n 0, 1) := by decide +kernel
theorem dX11_share_28 : decode cX11_share 28 = .ok (.bipush 22, 2) := by decide +kernel
theorem dX11_share_30 : decode cX11_share 30 = .ok (.invokevirtual 121, 3) := by decide +kernel
theorem dX11_share_33 : decode cX11_share 33 = .ok (.aload_n 0, 1) := by decide +kernel
theorem dX11_share_34 : decode cX11_share 34 = .ok (.bipush 20, 2) := by decide +kernel
theorem dX11_share_36 : decode cX11_share 36 = .ok (.invokevirtual 121, 3) := by decide +kernel
theorem dX11_share_39 : decode cX11_share 39 = .ok (.iload_n 1, 1) := by decide +kernel
theorem dX11_share_40 : decode cX11_share 40 = .ok (.iconst 1, 1) := by decide +kernel
theorem dX11_share_41 : decode cX11_share 41 = .ok (.if_icmp .le 14, 3) := by decide +kernel
theorem dX11_share_44 : decode cX11_share 44 = .ok (.bipush 24, 2) := by decide +kernel
theorem dX11_share_46 : decode cX11_share 46 = .ok (.aload_n 0, 1) := by decide +kernel
theorem dX11_share_47 : decode cX11_share 47 = .ok (.iload_n 1, 1) := by decide +kernel
theorem dX11_share_48 : decode cX11_share 48 = .ok (.invokevirtual 127, 3) := by decide +kernel
theorem dX11_share_51 : decode cX11_share 51 = .ok (.iadd, 1) := by decide +kernel
theorem dX11_share_52 : decode cX11_share 52 = .ok (.goto 5, 3) := by decide +kernel
theorem dX11_share_55 : decode cX11_share 55 = .ok (.bipush 24, 2) := by decide +kernel
theorem dX11_share_57 : decode cX11_share 57 = .ok (.istore_n 2, 1) := by decide +kernel
theorem dX11_share_58 : decode cX11_share 58 = .ok (.iload_n 1, 1) := by decide +kernel
theorem dX11_share_59 : decode cX11_share 59 = .ok (.iconst 1, 1) := by decide +kernel
theorem dX11_share_60 : decode cX11_share 60 = .ok (.if_icmp .ne 9, 3) := by decide +kernel
theorem dX11_share_63 : decode cX11_share 63 = .ok (.iload_n 2, 1) := by decide +kernel
theorem dX11_share_64 : decode cX11_share 64 = .ok (.iconst 2, 1) := by decide +kernel
theorem dX11_share_65 : decode cX11_share 65 = .ok (.idiv, 1) := by decide +kernel
theorem dX11_share_66 : decode cX11_share 66 = .ok (.goto 15, 3) := by decide +kernel
theorem dX11_share_69 : decode cX11_share 69 = .ok (.iload_n 1, 1) := by decide +kernel
theorem dX11_share_70 : decode cX11_share 70 = .ok (.iconst 4, 1) := by decide +kernel
theorem dX11_share_71 : decode cX11_share 71 = .ok (.if_icmp .ne 9, 3) := by decide +kernel
theorem dX11_share_74 : decode cX11_share 74 = .ok (.iload_n 2, 1) := by decide +kernel
theorem dX11_share_75 : decode cX11_share 75 = .ok (.iconst 5, 1) := by decide +kernel
theorem dX11_share_76 : decode cX11_share 76 = .ok (.idiv, 1) := by decide +kernel
theorem dX11_share_77 : decode cX11_share 77 = .ok (.goto 4, 3) := by decide +kernel
theorem dX11_share_80 : decode cX11_share 80 = .ok (.iload_n 2, 1) := by decide +kernel
theorem dX11_share_81 : decode cX11_share 81 = .ok (.ireturn, 1) := by decide +kernel
theorem dX11_mark_0 : decode cX11_mark 0 = .ok (.iload_n 1, 1) := by decide +kernel
theorem dX11_mark_1 : decode cX11_mark 1 = .ok (.iconst 3, 1) := by decide +kernel
theorem dX11_mark_2 : decode cX11_mark 2 = .ok (.if_icmp .ne 9, 3) := by decide +kernel
theorem dX11_mark_5 : decode cX11_mark 5 = .ok (.aload_n 0, 1) := by decide +kernel
theorem dX11_mark_6 : decode cX11_mark 6 = .ok (.bipush 32, 2) := by decide +kernel
theorem dX11_mark_8 : decode cX11_mark 8 = .ok (.invokevirtual 121, 3) := by decide +kernel
theorem dX11_mark_11 : decode cX11_mark 11 = .ok (.iload_n 1, 1) := by decide +kernel
theorem dX11_mark_12 : decode cX11_mark 12 = .ok (.iconst 1, 1) := by decide +kernel
theorem dX11_mark_13 : decode cX11_mark 13 = .ok (.if_icmp .le 9, 3) := by decide +kernel
theorem dX11_mark_16 : decode cX11_mark 16 = .ok (.aload_n 0, 1) := by decide +kernel
theorem dX11_mark_17 : decode cX11_mark 17 = .ok (.bipush 31, 2) := by decide +kernel
theorem dX11_mark_19 : decode cX11_mark 19 = .ok (.invokevirtual 121, 3) := by decide +kernel
theorem dX11_mark_22 : decode cX11_mark 22 = .ok (.aload_n 0, 1) := by decide +kernel
theorem dX11_mark_23 : decode cX11_mark 23 = .ok (.bipush 30, 2) := by decide +kernel
theorem dX11_mark_25 : decode cX11_mark 25 = .ok (.invokevirtual 121, 3) := by decide +kernel
theorem dX11_mark_28 : decode cX11_mark 28 = .ok (.aload_n 0, 1) := by decide +kernel
theorem dX11_mark_29 : decode cX11_mark 29 = .ok (.getfield 33, 3) := by decide +kernel
theorem dX11_mark_32 : decode cX11_mark 32 = .ok (.iconst 0, 1) := by decide +kernel
theorem dX11_mark_33 : decode cX11_mark 33 = .ok (.laload, 1) := by decide +kernel
theorem dX11_mark_34 : decode cX11_mark 34 = .ok (.aload_n 0, 1) := by decide +kernel
theorem dX11_mark_35 : decode cX11_mark 35 = .ok (.getfield 33, 3) := by decide +kernel
theorem dX11_mark_38 : decode cX11_mark 38 = .ok (.iconst 1, 1) := by decide +kernel
theorem dX11_mark_39 : decode cX11_mark 39 = .ok (.laload, 1) := by decide +kernel
theorem dX11_mark_40 : decode cX11_mark 40 = .ok (.ladd, 1) := by decide +kernel
theorem dX11_mark_41 : decode cX11_mark 41 = .ok (.aload_n 0, 1) := by decide +kernel
theorem dX11_mark_42 : decode cX11_mark 42 = .ok (.getfield 33, 3) := by decide +kernel
theorem dX11_mark_45 : decode cX11_mark 45 = .ok (.iconst 2, 1) := by decide +kernel
theorem dX11_mark_46 : decode cX11_mark 46 = .ok (.laload, 1) := by decide +kernel
theorem dX11_mark_47 : decode cX11_mark 47 = .ok (.ladd, 1) := by decide +kernel
theorem dX11_mark_48 : decode cX11_mark 48 = .ok (.aload_n 0, 1) := by decide +kernel
theorem dX11_mark_49 : decode cX11_mark 49 = .ok (.getfield 33, 3) := by decide +kernel
theorem dX11_mark_52 : decode cX11_mark 52 = .ok (.iconst 3, 1) := by decide +kernel
theorem dX11_mark_53 : decode cX11_mark 53 = .ok (.laload, 1) := by decide +kernel
theorem dX11_mark_54 : decode cX11_mark 54 = .ok (.ladd, 1) := by decide +kernel
theorem dX11_mark_55 : decode cX11_mark 55 = .ok (.lstore_n 2, 1) := by decide +kernel
theorem dX11_mark_56 : decode cX11_mark 56 = .ok (.lload_n 2, 1) := by decide +kernel
theorem dX11_mark_57 : decode cX11_mark 57 = .ok (.ldc2_w 130, 3) := by decide +kernel
theorem dX11_mark_60 : decode cX11_mark 60 = .ok (.lrem, 1) := by decide +kernel
theorem dX11_mark_61 : decode cX11_mark 61 = .ok (.ldc2_w 130, 3) := by decide +kernel
theorem dX11_mark_64 : decode cX11_mark 64 = .ok (.ladd, 1) := by decide +kernel
theorem dX11_mark_65 : decode cX11_mark 65 = .ok (.ldc2_w 130, 3) := by decide +kernel
theorem dX11_mark_68 : decode cX11_mark 68 = .ok (.lrem, 1) := by decide +kernel
theorem dX11_mark_69 : decode cX11_mark 69 = .ok (.l2i, 1) := by decide +kernel
theorem dX11_mark_70 : decode cX11_mark 70 = .ok (.istore 4, 2) := by decide +kernel
theorem dX11_mark_72 : decode cX11_mark 72 = .ok (.iload_n 1, 1) := by decide +kernel
theorem dX11_mark_73 : decode cX11_mark 73 = .ok (.iconst 1, 1) := by decide +kernel
theorem dX11_mark_74 : decode cX11_mark 74 = .ok (.if_icmp .le 10, 3) := by decide +kernel
theorem dX11_mark_77 : decode cX11_mark 77 = .ok (.iconst 2, 1) := by decide +kernel
theorem dX11_mark_78 : decode cX11_mark 78 = .ok (.iload 4, 2) := by decide +kernel
theorem dX11_mark_80 : decode cX11_mark 80 = .ok (.imul, 1) := by decide +kernel
theorem dX11_mark_81 : decode cX11_mark 81 = .ok (.goto 5, 3) := by decide +kernel
theorem dX11_mark_84 : decode cX11_mark 84 = .ok (.iload 4, 2) := by decide +kernel
theorem dX11_mark_86 : decode cX11_mark 86 = .ok (.iload_n 1, 1) := by decide +kernel
theorem dX11_mark_87 : decode cX11_mark 87 = .ok (.iconst 3, 1) := by decide +kernel
theorem dX11_mark_88 : decode cX11_mark 88 = .ok (.if_icmp .ne 7, 3) := by decide +kernel
theorem dX11_mark_91 : decode cX11_mark 91 = .ok (.iconst 1, 1) := by decide +kernel
theorem dX11_mark_92 : decode cX11_mark 92 = .ok (.goto 4, 3) := by decide +kernel
theorem dX11_mark_95 : decode cX11_mark 95 = .ok (.iconst 0, 1) := by decide +kernel
theorem dX11_mark_96 : decode cX11_mark 96 = .ok (.iadd, 1) := by decide +kernel
theorem dX11_mark_97 : decode cX11_mark 97 = .ok (.ireturn, 1) := by decide +kernel
theorem dX11_ask_0 : decode cX11_ask 0 = .ok (.iload_n 1, 1) := by decide +kernel
theorem dX11_ask_1 : decode cX11_ask 1 = .ok (.invokestatic 92, 3) := by decide +kernel
theorem dX11_ask_4 : decode cX11_ask 4 = .ok (.ifCond .eq 15, 3) := by decide +kernel
theorem dX11_ask_7 : decode cX11_ask 7 = .ok (.iload_n 2, 1) := by decide +kernel
theorem dX11_ask_8 : decode cX11_ask 8 = .ok (.i2l, 1) := by decide +kernel
theorem dX11_ask_9 : decode cX11_ask 9 = .ok (.lconst 0, 1) := by decide +kernel
theorem dX11_ask_10 : decode cX11_ask 10 = .ok (.ldc2_w 54, 3) := by decide +kernel
theorem dX11_ask_13 : decode cX11_ask 13 = .ok (.invokestatic 46, 3) := by decide +kernel
theorem dX11_ask_16 : decode cX11_ask 16 = .ok (.ifCond .ne 6, 3) := by decide +kernel
theorem dX11_ask_19 : decode cX11_ask 19 = .ok (.ldc 56, 2) := by decide +kernel
theorem dX11_ask_21 : decode cX11_ask 21 = .ok (.ireturn, 1) := by decide +kernel
theorem dX11_ask_22 : decode cX11_ask 22 = .ok (.aload_n 0, 1) := by decide +kernel
theorem dX11_ask_23 : decode cX11_ask 23 = .ok (.iconst 0, 1) := by decide +kernel
theorem dX11_ask_24 : decode cX11_ask 24 = .ok (.putfield 118, 3) := by decide +kernel
theorem dX11_ask_27 : decode cX11_ask 27 = .ok (.aload_n 0, 1) := by decide +kernel
theorem dX11_ask_28 : decode cX11_ask 28 = .ok (.getfield 7, 3) := by decide +kernel
theorem dX11_ask_31 : decode cX11_ask 31 = .ok (.iload_n 1, 1) := by decide +kernel
theorem dX11_ask_32 : decode cX11_ask 32 = .ok (.baload, 1) := by decide +kernel
theorem dX11_ask_33 : decode cX11_ask 33 = .ok (.ifCond .ne 9, 3) := by decide +kernel
theorem dX11_ask_36 : decode cX11_ask 36 = .ok (.aload_n 0, 1) := by decide +kernel
theorem dX11_ask_37 : decode cX11_ask 37 = .ok (.iconst 1, 1) := by decide +kernel
theorem dX11_ask_38 : decode cX11_ask 38 = .ok (.invokevirtual 57, 3) := by decide +kernel
theorem dX11_ask_41 : decode cX11_ask 41 = .ok (.ireturn, 1) := by decide +kernel
theorem dX11_ask_42 : decode cX11_ask 42 = .ok (.aload_n 0, 1) := by decide +kernel
theorem dX11_ask_43 : decode cX11_ask 43 = .ok (.iconst 0, 1) := by decide +kernel
theorem dX11_ask_44 : decode cX11_ask 44 = .ok (.iload_n 1, 1) := by decide +kernel
theorem dX11_ask_45 : decode cX11_ask 45 = .ok (.invokevirtual 111, 3) := by decide +kernel
theorem dX11_ask_48 : decode cX11_ask 48 = .ok (.aload_n 0, 1) := by decide +kernel
theorem dX11_ask_49 : decode cX11_ask 49 = .ok (.iconst 0, 1) := by decide +kernel
theorem dX11_ask_50 : decode cX11_ask 50 = .ok (.invokevirtual 106, 3) := by decide +kernel
theorem dX11_ask_53 : decode cX11_ask 53 = .ok (.istore_n 3, 1) := by decide +kernel
theorem dX11_ask_54 : decode cX11_ask 54 = .ok (.aload_n 0, 1) := by decide +kernel
theorem dX11_ask_55 : decode cX11_ask 55 = .ok (.iload_n 2, 1) := by decide +kernel
theorem dX11_ask_56 : decode cX11_ask 56 = .ok (.ifCond .ne 11, 3) := by decide +kernel
theorem dX11_ask_59 : decode cX11_ask 59 = .ok (.aload_n 0, 1) := by decide +kernel
theorem dX11_ask_60 : decode cX11_ask 60 = .ok (.iload_n 3, 1) := by decide +kernel
theorem dX11_ask_61 : decode cX11_ask 61 = .ok (.invokevirtual 127, 3) := by decide +kernel
theorem dX11_ask_64 : decode cX11_ask 64 = .ok (.goto 21, 3) := by decide +kernel
theorem dX11_ask_67 : decode cX11_ask 67 = .ok (.iload_n 2, 1) := by decide +kernel
theorem dX11_ask_68 : decode cX11_ask 68 = .ok (.iconst 1, 1) := by decide +kernel
theorem dX11_ask_69 : decode cX11_ask 69 = .ok (.if_icmp .ne 11, 3) := by decide +kernel
theorem dX11_ask_72 : decode cX11_ask 72 = .ok (.aload_n 0, 1) := by decide +kernel
theorem dX11_ask_73 : decode cX11_ask 73 = .ok (.iload_n 3, 1) := by decide +kernel
theorem dX11_ask_74 : decode cX11_ask 74 = .ok (.invokevirtual 132, 3) := by decide +kernel
theorem dX11_ask_77 : decode cX11_ask 77 = .ok (.goto 8, 3) := by decide +kernel
theorem dX11_ask_80 : decode cX11_ask 80 = .ok (.aload_n 0, 1) := by decide +kernel
theorem dX11_ask_81 : decode cX11_ask 81 = .ok (.iload_n 3, 1) := by decide +kernel
theorem dX11_ask_82 : decode cX11_ask 82 = .ok (.invokevirtual 135, 3) := by decide +kernel
theorem dX11_ask_85 : decode cX11_ask 85 = .ok (.invokevirtual 61, 3) := by decide +kernel
theorem dX11_ask_88 : decode cX11_ask 88 = .ok (.ireturn, 1) := by decide +kernel
theorem dX11_trace_0 : decode cX11_trace 0 = .ok (.iload_n 1, 1) := by decide +kernel
theorem dX11_trace_1 : decode cX11_trace 1 = .ok (.i2l, 1) := by decide +kernel
theorem dX11_trace_2 : decode cX11_trace 2 = .ok (.lconst 0, 1) := by decide +kernel
theorem dX11_trace_3 : decode cX11_trace 3 = .ok (.aload_n 0, 1) := by decide +kernel
theorem dX11_trace_4 : decode cX11_trace 4 = .ok (.getfield 118, 3) := by decide +kernel
theorem dX11_trace_7 : decode cX11_trace 7 = .ok (.iconst 1, 1) := by decide +kernel
theorem dX11_trace_8 : decode cX11_trace 8 = .ok (.isub, 1) := by decide +kernel
theorem dX11_trace_9 : decode cX11_trace 9 = .ok (.i2l, 1) := by decide +kernel
theorem dX11_trace_10 : decode cX11_trace 10 = .ok (.invokestatic 46, 3) := by decide +kernel
theorem dX11_trace_13 : decode cX11_trace 13 = .ok (.ifCond .eq 12, 3) := by decide +kernel
theorem dX11_trace_16 : decode cX11_trace 16 = .ok (.aload_n 0, 1) := by decide +kernel
theorem dX11_trace_17 : decode cX11_trace 17 = .ok (.getfield 30, 3) := by decide +kernel
theorem dX11_trace_20 : decode cX11_trace 20 = .ok (.iload_n 1, 1) := by decide +kernel
theorem dX11_trace_21 : decode cX11_trace 21 = .ok (.iaload, 1) := by decide +kernel
theorem dX11_trace_22 : decode cX11_trace 22 = .ok (.goto 5, 3) := by decide +kernel
theorem dX11_trace_25 : decode cX11_trace 25 = .ok (.ldc 138, 2) := by decide +kernel
theorem dX11_trace_27 : decode cX11_trace 27 = .ok (.ireturn, 1) := by decide +kernel
theorem dX11_comes_0 : decode cX11_comes 0 = .ok (.aload_n 0, 1) := by decide +kernel
theorem dX11_comes_1 : decode cX11_comes 1 = .ok (.iload_n 2, 1) := by decide +kernel
theorem dX11_comes_2 : decode cX11_comes 2 = .ok (.invokevirtual 83, 3) := by decide +kernel
theorem dX11_comes_5 : decode cX11_comes 5 = .ok (.ldc2_w 100, 3) := by decide +kernel
theorem dX11_comes_8 : decode cX11_comes 8 = .ok (.lcmp, 1) := by decide +kernel
theorem dX11_comes_9 : decode cX11_comes 9 = .ok (.ifCond .le 6, 3) := by decide +kernel
theorem dX11_comes_12 : decode cX11_comes 12 = .ok (.ldc 99, 2) := by decide +kernel
theorem dX11_comes_14 : decode cX11_comes 14 = .ok (.ireturn, 1) := by decide +kernel
theorem dX11_comes_15 : decode cX11_comes 15 = .ok (.aload_n 0, 1) := by decide +kernel
theorem dX11_comes_16 : decode cX11_comes 16 = .ok (.iload_n 1, 1) := by decide +kernel
theorem dX11_comes_17 : decode cX11_comes 17 = .ok (.iload_n 2, 1) := by decide +kernel
theorem dX11_comes_18 : decode cX11_comes 18 = .ok (.invokevirtual 102, 3) := by decide +kernel
theorem dX11_comes_21 : decode cX11_comes 21 = .ok (.aload_n 0, 1) := by decide +kernel
theorem dX11_comes_22 : decode cX11_comes 22 = .ok (.aload_n 0, 1) := by decide +kernel
theorem dX11_comes_23 : decode cX11_comes 23 = .ok (.iload_n 2, 1) := by decide +kernel
theorem dX11_comes_24 : decode cX11_comes 24 = .ok (.invokevirtual 106, 3) := by decide +kernel
theorem dX11_comes_27 : decode cX11_comes 27 = .ok (.invokevirtual 61, 3) := by decide +kernel
theorem dX11_comes_30 : decode cX11_comes 30 = .ok (.ireturn, 1) := by decide +kernel
theorem dX11_times_0 : decode cX11_times 0 = .ok (.iload_n 1, 1) := by decide +kernel
theorem dX11_times_1 : decode cX11_times 1 = .ok (.invokestatic 92, 3) := by decide +kernel
theorem dX11_times_4 : decode cX11_times 4 = .ok (.ifCond .eq 17, 3) := by decide +kernel
theorem dX11_times_7 : decode cX11_times 7 = .ok (.iload_n 2, 1) := by decide +kernel
theorem dX11_times_8 : decode cX11_times 8 = .ok (.invokestatic 92, 3) := by decide +kernel
theorem dX11_times_11 : decode cX11_times 11 = .ok (.ifCond .eq 10, 3) := by decide +kernel
theorem dX11_times_14 : decode cX11_times 14 = .ok (.iload_n 3, 1) := by decide +kernel
theorem dX11_times_15 : decode cX11_times 15 = .ok (.invokestatic 92, 3) := by decide +kernel
theorem dX11_times_18 : decode cX11_times 18 = .ok (.ifCond .ne 6, 3) := by decide +kernel
theorem dX11_times_21 : decode cX11_times 21 = .ok (.ldc 56, 2) := by decide +kernel
theorem dX11_times_23 : decode cX11_times 23 = .ok (.ireturn, 1) := by decide +kernel
theorem dX11_times_24 : decode cX11_times 24 = .ok (.aload_n 0, 1) := by decide +kernel
theorem dX11_times_25 : decode cX11_times 25 = .ok (.getfield 7, 3) := by decide +kernel
theorem dX11_times_28 : decode cX11_times 28 = .ok (.iload_n 2, 1) := by decide +kernel
theorem dX11_times_29 : decode cX11_times 29 = .ok (.baload, 1) := by decide +kernel
theorem dX11_times_30 : decode cX11_times 30 = .ok (.ifCond .eq 12, 3) := by decide +kernel
theorem dX11_times_33 : decode cX11_times 33 = .ok (.aload_n 0, 1) := by decide +kernel
theorem dX11_times_34 : decode cX11_times 34 = .ok (.getfield 7, 3) := by decide +kernel
theorem dX11_times_37 : decode cX11_times 37 = .ok (.iload_n 3, 1) := by decide +kernel
theorem dX11_times_38 : decode cX11_times 38 = .ok (.baload, 1) := by decide +kernel
theorem dX11_times_39 : decode cX11_times 39 = .ok (.ifCond .ne 9, 3) := by decide +kernel
theorem dX11_times_42 : decode cX11_times 42 = .ok (.aload_n 0, 1) := by decide +kernel
theorem dX11_times_43 : decode cX11_times 43 = .ok (.iconst 1, 1) := by decide +kernel
theorem dX11_times_44 : decode cX11_times 44 = .ok (.invokevirtual 57, 3) := by decide +kernel
theorem dX11_times_47 : decode cX11_times 47 = .ok (.ireturn, 1) := by decide +kernel
theorem dX11_times_48 : decode cX11_times 48 = .ok (.aload_n 0, 1) := by decide +kernel
theorem dX11_times_49 : decode cX11_times 49 = .ok (.iconst 0, 1) := by decide +kernel
theorem dX11_times_50 : decode cX11_times 50 = .ok (.iload_n 2, 1) := by decide +kernel
theorem dX11_times_51 : decode cX11_times 51 = .ok (.invokevirtual 111, 3) := by decide +kernel
theorem dX11_times_54 : decode cX11_times 54 = .ok (.aload_n 0, 1) := by decide +kernel
theorem dX11_times_55 : decode cX11_times 55 = .ok (.iconst 4, 1) := by decide +kernel
theorem dX11_times_56 : decode cX11_times 56 = .ok (.iload_n 3, 1) := by decide +kernel
theorem dX11_times_57 : decode cX11_times 57 = .ok (.invokevirtual 111, 3) := by decide +kernel
theorem dX11_times_60 : decode cX11_times 60 = .ok (.aload_n 0, 1) := by decide +kernel
theorem dX11_times_61 : decode cX11_times 61 = .ok (.iconst 0, 1) := by decide +kernel
theorem dX11_times_62 : decode cX11_times 62 = .ok (.invokevirtual 83, 3) := by decide +kernel
theorem dX11_times_65 : decode cX11_times 65 = .ok (.aload_n 0, 1) := by decide +kernel
theorem dX11_times_66 : decode cX11_times 66 = .ok (.iconst 4, 1) := by decide +kernel
theorem dX11_times_67 : decode cX11_times 67 = .ok (.invokevirtual 83, 3) := by decide +kernel
theorem dX11_times_70 : decode cX11_times 70 = .ok (.lmul, 1) := by decide +kernel
theorem dX11_times_71 : decode cX11_times 71 = .ok (.ldc2_w 100, 3) := by decide +kernel
theorem dX11_times_74 : decode cX11_times 74 = .ok (.lcmp, 1) := by decide +kernel
theorem dX11_times_75 : decode cX11_times 75 = .ok (.ifCond .le 6, 3) := by decide +kernel
theorem dX11_times_78 : decode cX11_times 78 = .ok (.ldc 99, 2) := by decide +kernel
theorem dX11_times_80 : decode cX11_times 80 = .ok (.ireturn, 1) := by decide +kernel
theorem dX11_times_81 : decode cX11_times 81 = .ok (.aload_n 0, 1) := by decide +kernel
theorem dX11_times_82 : decode cX11_times 82 = .ok (.bipush 8, 2) := by decide +kernel
theorem dX11_times_84 : decode cX11_times 84 = .ok (.iconst 0, 1) := by decide +kernel
theorem dX11_times_85 : decode cX11_times 85 = .ok (.iconst 4, 1) := by decide +kernel
theorem dX11_times_86 : decode cX11_times 86 = .ok (.invokevirtual 139, 3) := by decide +kernel
theorem dX11_times_89 : decode cX11_times 89 = .ok (.aload_n 0, 1) := by decide +kernel
theorem dX11_times_90 : decode cX11_times 90 = .ok (.iload_n 1, 1) := by decide +kernel
theorem dX11_times_91 : decode cX11_times 91 = .ok (.bipush 8, 2) := by decide +kernel
theorem dX11_times_93 : decode cX11_times 93 = .ok (.invokevirtual 143, 3) := by decide +kernel
theorem dX11_times_96 : decode cX11_times 96 = .ok (.ireturn, 1) := by decide +kernel
theorem dX11_sum_0 : decode cX11_sum 0 = .ok (.iload_n 1, 1) := by decide +kernel
theorem dX11_sum_1 : decode cX11_sum 1 = .ok (.invokestatic 92, 3) := by decide +kernel
theorem dX11_sum_4 : decode cX11_sum 4 = .ok (.ifCond .eq 17, 3) := by decide +kernel
theorem dX11_sum_7 : decode cX11_sum 7 = .ok (.iload_n 2, 1) := by decide +kernel
theorem dX11_sum_8 : decode cX11_sum 8 = .ok (.invokestatic 92, 3) := by decide +kernel
theorem dX11_sum_11 : decode cX11_sum 11 = .ok (.ifCond .eq 10, 3) := by decide +kernel
theorem dX11_sum_14 : decode cX11_sum 14 = .ok (.iload_n 3, 1) := by decide +kernel
theorem dX11_sum_15 : decode cX11_sum 15 = .ok (.invokestatic 92, 3) := by decide +kernel
theorem dX11_sum_18 : decode cX11_sum 18 = .ok (.ifCond .ne 6, 3) := by decide +kernel
theorem dX11_sum_21 : decode cX11_sum 21 = .ok (.ldc 56, 2) := by decide +kernel
theorem dX11_sum_23 : decode cX11_sum 23 = .ok (.ireturn, 1) := by decide +kernel
theorem dX11_sum_24 : decode cX11_sum 24 = .ok (.aload_n 0, 1) := by decide +kernel
theorem dX11_sum_25 : decode cX11_sum 25 = .ok (.getfield 7, 3) := by decide +kernel
theorem dX11_sum_28 : decode cX11_sum 28 = .ok (.iload_n 2, 1) := by decide +kernel
theorem dX11_sum_29 : decode cX11_sum 29 = .ok (.baload, 1) := by decide +kernel
theorem dX11_sum_30 : decode cX11_sum 30 = .ok (.ifCond .eq 12, 3) := by decide +kernel
theorem dX11_sum_33 : decode cX11_sum 33 = .ok (.aload_n 0, 1) := by decide +kernel
theorem dX11_sum_34 : decode cX11_sum 34 = .ok (.getfield 7, 3) := by decide +kernel
theorem dX11_sum_37 : decode cX11_sum 37 = .ok (.iload_n 3, 1) := by decide +kernel
theorem dX11_sum_38 : decode cX11_sum 38 = .ok (.baload, 1) := by decide +kernel
theorem dX11_sum_39 : decode cX11_sum 39 = .ok (.ifCond .ne 9, 3) := by decide +kernel
theorem dX11_sum_42 : decode cX11_sum 42 = .ok (.aload_n 0, 1) := by decide +kernel
theorem dX11_sum_43 : decode cX11_sum 43 = .ok (.iconst 1, 1) := by decide +kernel
theorem dX11_sum_44 : decode cX11_sum 44 = .ok (.invokevirtual 57, 3) := by decide +kernel
theorem dX11_sum_47 : decode cX11_sum 47 = .ok (.ireturn, 1) := by decide +kernel
theorem dX11_sum_48 : decode cX11_sum 48 = .ok (.aload_n 0, 1) := by decide +kernel
theorem dX11_sum_49 : decode cX11_sum 49 = .ok (.iconst 0, 1) := by decide +kernel
theorem dX11_sum_50 : decode cX11_sum 50 = .ok (.iload_n 2, 1) := by decide +kernel
theorem dX11_sum_51 : decode cX11_sum 51 = .ok (.invokevirtual 111, 3) := by decide +kernel
theorem dX11_sum_54 : decode cX11_sum 54 = .ok (.aload_n 0, 1) := by decide +kernel
theorem dX11_sum_55 : decode cX11_sum 55 = .ok (.iconst 4, 1) := by decide +kernel
theorem dX11_sum_56 : decode cX11_sum 56 = .ok (.iload_n 3, 1) := by decide +kernel
theorem dX11_sum_57 : decode cX11_sum 57 = .ok (.invokevirtual 111, 3) := by decide +kernel
theorem dX11_sum_60 : decode cX11_sum 60 = .ok (.aload_n 0, 1) := by decide +kernel
theorem dX11_sum_61 : decode cX11_sum 61 = .ok (.bipush 8, 2) := by decide +kernel
theorem dX11_sum_63 : decode cX11_sum 63 = .ok (.aload_n 0, 1) := by decide +kernel
theorem dX11_sum_64 : decode cX11_sum 64 = .ok (.getfield 33, 3) := by decide +kernel
theorem dX11_sum_67 : decode cX11_sum 67 = .ok (.iconst 0, 1) := by decide +kernel
theorem dX11_sum_68 : decode cX11_sum 68 = .ok (.laload, 1) := by decide +kernel
theorem dX11_sum_69 : decode cX11_sum 69 = .ok (.aload_n 0, 1) := by decide +kernel
theorem dX11_sum_70 : decode cX11_sum 70 = .ok (.getfield 33, 3) := by decide +kernel
theorem dX11_sum_73 : decode cX11_sum 73 = .ok (.iconst 4, 1) := by decide +kernel
theorem dX11_sum_74 : decode cX11_sum 74 = .ok (.laload, 1) := by decide +kernel
theorem dX11_sum_75 : decode cX11_sum 75 = .ok (.ladd, 1) := by decide +kernel
theorem dX11_sum_76 : decode cX11_sum 76 = .ok (.aload_n 0, 1) := by decide +kernel
theorem dX11_sum_77 : decode cX11_sum 77 = .ok (.getfield 33, 3) := by decide +kernel
theorem dX11_sum_80 : decode cX11_sum 80 = .ok (.iconst 1, 1) := by decide +kernel
theorem dX11_sum_81 : decode cX11_sum 81 = .ok (.laload, 1) := by decide +kernel
theorem dX11_sum_82 : decode cX11_sum 82 = .ok (.aload_n 0, 1) := by decide +kernel
theorem dX11_sum_83 : decode cX11_sum 83 = .ok (.getfield 33, 3) := by decide +kernel
theorem dX11_sum_86 : decode cX11_sum 86 = .ok (.iconst 5, 1) := by decide +kernel
theorem dX11_sum_87 : decode cX11_sum 87 = .ok (.laload, 1) := by decide +kernel
theorem dX11_sum_88 : decode cX11_sum 88 = .ok (.ladd, 1) := by decide +kernel
theorem dX11_sum_89 : decode cX11_sum 89 = .ok (.aload_n 0, 1) := by decide +kernel
theorem dX11_sum_90 : decode cX11_sum 90 = .ok (.getfield 33, 3) := by decide +kernel
theorem dX11_sum_93 : decode cX11_sum 93 = .ok (.iconst 2, 1) := by decide +kernel
theorem dX11_sum_94 : decode cX11_sum 94 = .ok (.laload, 1) := by decide +kernel
theorem dX11_sum_95 : decode cX11_sum 95 = .ok (.aload_n 0, 1) := by decide +kernel
theorem dX11_sum_96 : decode cX11_sum 96 = .ok (.getfield 33, 3) := by decide +kernel
theorem dX11_sum_99 : decode cX11_sum 99 = .ok (.bipush 6, 2) := by decide +kernel
theorem dX11_sum_101 : decode cX11_sum 101 = .ok (.laload, 1) := by decide +kernel
theorem dX11_sum_102 : decode cX11_sum 102 = .ok (.ladd, 1) := by decide +kernel
theorem dX11_sum_103 : decode cX11_sum 103 = .ok (.aload_n 0, 1) := by decide +kernel
theorem dX11_sum_104 : decode cX11_sum 104 = .ok (.getfield 33, 3) := by decide +kernel
theorem dX11_sum_107 : decode cX11_sum 107 = .ok (.iconst 3, 1) := by decide +kernel
theorem dX11_sum_108 : decode cX11_sum 108 = .ok (.laload, 1) := by decide +kernel
theorem dX11_sum_109 : decode cX11_sum 109 = .ok (.aload_n 0, 1) := by decide +kernel
theorem dX11_sum_110 : decode cX11_sum 110 = .ok (.getfield 33, 3) := by decide +kernel
theorem dX11_sum_113 : decode cX11_sum 113 = .ok (.bipush 7, 2) := by decide +kernel
theorem dX11_sum_115 : decode cX11_sum 115 = .ok (.laload, 1) := by decide +kernel
theorem dX11_sum_116 : decode cX11_sum 116 = .ok (.ladd, 1) := by decide +kernel
theorem dX11_sum_117 : decode cX11_sum 117 = .ok (.invokevirtual 68, 3) := by decide +kernel
theorem dX11_sum_120 : decode cX11_sum 120 = .ok (.aload_n 0, 1) := by decide +kernel
theorem dX11_sum_121 : decode cX11_sum 121 = .ok (.iload_n 1, 1) := by decide +kernel
theorem dX11_sum_122 : decode cX11_sum 122 = .ok (.bipush 8, 2) := by decide +kernel
theorem dX11_sum_124 : decode cX11_sum 124 = .ok (.invokevirtual 143, 3) := by decide +kernel
theorem dX11_sum_127 : decode cX11_sum 127 = .ok (.ireturn, 1) := by decide +kernel
theorem dX11_back_0 : decode cX11_back 0 = .ok (.iload_n 1, 1) := by decide +kernel
theorem dX11_back_1 : decode cX11_back 1 = .ok (.invokestatic 92, 3) := by decide +kernel
theorem dX11_back_4 : decode cX11_back 4 = .ok (.ifCond .eq 10, 3) := by decide +kernel
theorem dX11_back_7 : decode cX11_back 7 = .ok (.iload_n 2, 1) := by decide +kernel
theorem dX11_back_8 : decode cX11_back 8 = .ok (.invokestatic 92, 3) := by decide +kernel
theorem dX11_back_11 : decode cX11_back 11 = .ok (.ifCond .ne 6, 3) := by decide +kernel
theorem dX11_back_14 : decode cX11_back 14 = .ok (.ldc 56, 2) := by decide +kernel
theorem dX11_back_16 : decode cX11_back 16 = .ok (.ireturn, 1) := by decide +kernel
theorem dX11_back_17 : decode cX11_back 17 = .ok (.aload_n 0, 1) := by decide +kernel
theorem dX11_back_18 : decode cX11_back 18 = .ok (.getfield 7, 3) := by decide +kernel
theorem dX11_back_21 : decode cX11_back 21 = .ok (.iload_n 2, 1) := by decide +kernel
theorem dX11_back_22 : decode cX11_back 22 = .ok (.baload, 1) := by decide +kernel
theorem dX11_back_23 : decode cX11_back 23 = .ok (.ifCond .ne 9, 3) := by decide +kernel
theorem dX11_back_26 : decode cX11_back 26 = .ok (.aload_n 0, 1) := by decide +kernel
theorem dX11_back_27 : decode cX11_back 27 = .ok (.iconst 1, 1) := by decide +kernel
theorem dX11_back_28 : decode cX11_back 28 = .ok (.invokevirtual 57, 3) := by decide +kernel
theorem dX11_back_31 : decode cX11_back 31 = .ok (.ireturn, 1) := by decide +kernel
theorem dX11_back_32 : decode cX11_back 32 = .ok (.aload_n 0, 1) := by decide +kernel
theorem dX11_back_33 : decode cX11_back 33 = .ok (.iconst 0, 1) := by decide +kernel
theorem dX11_back_34 : decode cX11_back 34 = .ok (.iload_n 2, 1) := by decide +kernel
theorem dX11_back_35 : decode cX11_back 35 = .ok (.invokevirtual 111, 3) := by decide +kernel
theorem dX11_back_38 : decode cX11_back 38 = .ok (.aload_n 0, 1) := by decide +kernel
theorem dX11_back_39 : decode cX11_back 39 = .ok (.bipush 8, 2) := by decide +kernel
theorem dX11_back_41 : decode cX11_back 41 = .ok (.iconst 0, 1) := by decide +kernel
theorem dX11_back_42 : decode cX11_back 42 = .ok (.invokevirtual 147, 3) := by decide +kernel
theorem dX11_back_45 : decode cX11_back 45 = .ok (.aload_n 0, 1) := by decide +kernel
theorem dX11_back_46 : decode cX11_back 46 = .ok (.iload_n 1, 1) := by decide +kernel
theorem dX11_back_47 : decode cX11_back 47 = .ok (.bipush 8, 2) := by decide +kernel
theorem dX11_back_49 : decode cX11_back 49 = .ok (.invokevirtual 143, 3) := by decide +kernel
theorem dX11_back_52 : decode cX11_back 52 = .ok (.ireturn, 1) := by decide +kernel
theorem dX11_divide_0 : decode cX11_divide 0 = .ok (.aload_n 0, 1) := by decide +kernel
theorem dX11_divide_1 : decode cX11_divide 1 = .ok (.iconst 4, 1) := by decide +kernel
theorem dX11_divide_2 : decode cX11_divide 2 = .ok (.invokevirtual 83, 3) := by decide +kernel
theorem dX11_divide_5 : decode cX11_divide 5 = .ok (.lstore_n 2, 1) := by decide +kernel
theorem dX11_divide_6 : decode cX11_divide 6 = .ok (.aload_n 0, 1) := by decide +kernel
theorem dX11_divide_7 : decode cX11_divide 7 = .ok (.bipush 16, 2) := by decide +kernel
theorem dX11_divide_9 : decode cX11_divide 9 = .ok (.iconst 4, 1) := by decide +kernel
theorem dX11_divide_10 : decode cX11_divide 10 = .ok (.invokevirtual 147, 3) := by decide +kernel
theorem dX11_divide_13 : decode cX11_divide 13 = .ok (.iload_n 1, 1) := by decide +kernel
theorem dX11_divide_14 : decode cX11_divide 14 = .ok (.ifCond .ne 15, 3) := by decide +kernel
theorem dX11_divide_17 : decode cX11_divide 17 = .ok (.aload_n 0, 1) := by decide +kernel
theorem dX11_divide_18 : decode cX11_divide 18 = .ok (.bipush 16, 2) := by decide +kernel
theorem dX11_divide_20 : decode cX11_divide 20 = .ok (.bipush 16, 2) := by decide +kernel
theorem dX11_divide_22 : decode cX11_divide 22 = .ok (.iconst 0, 1) := by decide +kernel
theorem dX11_divide_23 : decode cX11_divide 23 = .ok (.invokevirtual 139, 3) := by decide +kernel
theorem dX11_divide_26 : decode cX11_divide 26 = .ok (.goto 12, 3) := by decide +kernel
theorem dX11_divide_29 : decode cX11_divide 29 = .ok (.aload_n 0, 1) := by decide +kernel
theorem dX11_divide_30 : decode cX11_divide 30 = .ok (.bipush 16, 2) := by decide +kernel
theorem dX11_divide_32 : decode cX11_divide 32 = .ok (.iconst 0, 1) := by decide +kernel
theorem dX11_divide_33 : decode cX11_divide 33 = .ok (.bipush 16, 2) := by decide +kernel
theorem dX11_divide_35 : decode cX11_divide 35 = .ok (.invokevirtual 139, 3) := by decide +kernel
theorem dX11_divide_38 : decode cX11_divide 38 = .ok (.lload_n 2, 1) := by decide +kernel
theorem dX11_divide_39 : decode cX11_divide 39 = .ok (.lstore 4, 2) := by decide +kernel
theorem dX11_divide_41 : decode cX11_divide 41 = .ok (.iconst 0, 1) := by decide +kernel
theorem dX11_divide_42 : decode cX11_divide 42 = .ok (.istore 6, 2) := by decide +kernel
theorem dX11_divide_44 : decode cX11_divide 44 = .ok (.iload 6, 2) := by decide +kernel
theorem dX11_divide_46 : decode cX11_divide 46 = .ok (.iconst 4, 1) := by decide +kernel
theorem dX11_divide_47 : decode cX11_divide 47 = .ok (.if_icmp .ge 26, 3) := by decide +kernel
theorem dX11_divide_50 : decode cX11_divide 50 = .ok (.lload 4, 2) := by decide +kernel
theorem dX11_divide_52 : decode cX11_divide 52 = .ok (.aload_n 0, 1) := by decide +kernel
theorem dX11_divide_53 : decode cX11_divide 53 = .ok (.getfield 33, 3) := by decide +kernel
theorem dX11_divide_56 : decode cX11_divide 56 = .ok (.bipush 16, 2) := by decide +kernel
theorem dX11_divide_58 : decode cX11_divide 58 = .ok (.iload 6, 2) := by decide +kernel
theorem dX11_divide_60 : decode cX11_divide 60 = .ok (.iadd, 1) := by decide +kernel
theorem dX11_divide_61 : decode cX11_divide 61 = .ok (.laload, 1) := by decide +kernel
theorem dX11_divide_62 : decode cX11_divide 62 = .ok (.invokestatic 72, 3) := by decide +kernel
theorem dX11_divide_65 : decode cX11_divide 65 = .ok (.lstore 4, 2) := by decide +kernel
theorem dX11_divide_67 : decode cX11_divide 67 = .ok (.iinc 6 1, 3) := by decide +kernel
theorem dX11_divide_70 : decode cX11_divide 70 = .ok (.goto (-26), 3) := by decide +kernel
theorem dX11_divide_73 : decode cX11_divide 73 = .ok (.lload_n 2, 1) := by decide +kernel
theorem dX11_divide_74 : decode cX11_divide 74 = .ok (.lload 4, 2) := by decide +kernel
theorem dX11_divide_76 : decode cX11_divide 76 = .ok (.ldiv, 1) := by decide +kernel
theorem dX11_divide_77 : decode cX11_divide 77 = .ok (.lstore_n 2, 1) := by decide +kernel
theorem dX11_divide_78 : decode cX11_divide 78 = .ok (.lconst 0, 1) := by decide +kernel
theorem dX11_divide_79 : decode cX11_divide 79 = .ok (.lstore 6, 2) := by decide +kernel
theorem dX11_divide_81 : decode cX11_divide 81 = .ok (.lconst 0, 1) := by decide +kernel
theorem dX11_divide_82 : decode cX11_divide 82 = .ok (.lstore 8, 2) := by decide +kernel
theorem dX11_divide_84 : decode cX11_divide 84 = .ok (.iconst 0, 1) := by decide +kernel
theorem dX11_divide_85 : decode cX11_divide 85 = .ok (.istore 10, 2) := by decide +kernel
theorem dX11_divide_87 : decode cX11_divide 87 = .ok (.iload 10, 2) := by decide +kernel
theorem dX11_divide_89 : decode cX11_divide 89 = .ok (.iconst 4, 1) := by decide +kernel
theorem dX11_divide_90 : decode cX11_divide 90 = .ok (.if_icmp .ge 90, 3) := by decide +kernel
theorem dX11_divide_93 : decode cX11_divide 93 = .ok (.aload_n 0, 1) := by decide +kernel
theorem dX11_divide_94 : decode cX11_divide 94 = .ok (.getfield 33, 3) := by decide +kernel
theorem dX11_divide_97 : decode cX11_divide 97 = .ok (.bipush 16, 2) := by decide +kernel
theorem dX11_divide_99 : decode cX11_divide 99 = .ok (.iload 10, 2) := by decide +kernel
theorem dX11_divide_101 : decode cX11_divide 101 = .ok (.iadd, 1) := by decide +kernel
theorem dX11_divide_102 : decode cX11_divide 102 = .ok (.laload, 1) := by decide +kernel
theorem dX11_divide_103 : decode cX11_divide 103 = .ok (.lload 4, 2) := by decide +kernel
theorem dX11_divide_105 : decode cX11_divide 105 = .ok (.ldiv, 1) := by decide +kernel
theorem dX11_divide_106 : decode cX11_divide 106 = .ok (.lstore 11, 2) := by decide +kernel
theorem dX11_divide_108 : decode cX11_divide 108 = .ok (.lload 11, 2) := by decide +kernel
theorem dX11_divide_110 : decode cX11_divide 110 = .ok (.ldc2_w 54, 3) := by decide +kernel
theorem dX11_divide_113 : decode cX11_divide 113 = .ok (.lload_n 2, 1) := by decide +kernel
theorem dX11_divide_114 : decode cX11_divide 114 = .ok (.lmul, 1) := by decide +kernel
theorem dX11_divide_115 : decode cX11_divide 115 = .ok (.lload 11, 2) := by decide +kernel
theorem dX11_divide_117 : decode cX11_divide 117 = .ok (.lload_n 2, 1) := by decide +kernel
theorem dX11_divide_118 : decode cX11_divide 118 = .ok (.ladd, 1) := by decide +kernel
theorem dX11_divide_119 : decode cX11_divide 119 = .ok (.ldc2_w 54, 3) := by decide +kernel
theorem dX11_divide_122 : decode cX11_divide 122 = .ok (.lload_n 2, 1) := by decide +kernel
theorem dX11_divide_123 : decode cX11_divide 123 = .ok (.lmul, 1) := by decide +kernel
theorem dX11_divide_124 : decode cX11_divide 124 = .ok (.invokestatic 150, 3) := by decide +kernel
theorem dX11_divide_127 : decode cX11_divide 127 = .ok (.lmul, 1) := by decide +kernel
theorem dX11_divide_128 : decode cX11_divide 128 = .ok (.lsub, 1) := by decide +kernel
theorem dX11_divide_129 : decode cX11_divide 129 = .ok (.lstore 13, 2) := by decide +kernel
theorem dX11_divide_131 : decode cX11_divide 131 = .ok (.lload 11, 2) := by decide +kernel
theorem dX11_divide_133 : decode cX11_divide 133 = .ok (.lload_n 2, 1) := by decide +kernel
theorem dX11_divide_134 : decode cX11_divide 134 = .ok (.ldc2_w 54, 3) := by decide +kernel
theorem dX11_divide_137 : decode cX11_divide 137 = .ok (.lload 11, 2) := by decide +kernel
theorem dX11_divide_139 : decode cX11_divide 139 = .ok (.ldc2_w 54, 3) := by decide +kernel
theorem dX11_divide_142 : decode cX11_divide 142 = .ok (.lload_n 2, 1) := by decide +kernel
theorem dX11_divide_143 : decode cX11_divide 143 = .ok (.lmul, 1) := by decide +kernel
theorem dX11_divide_144 : decode cX11_divide 144 = .ok (.invokestatic 150, 3) := by decide +kernel
theorem dX11_divide_147 : decode cX11_divide 147 = .ok (.lmul, 1) := by decide +kernel
theorem dX11_divide_148 : decode cX11_divide 148 = .ok (.lconst 1, 1) := by decide +kernel
theorem dX11_divide_149 : decode cX11_divide 149 = .ok (.ladd, 1) := by decide +kernel
theorem dX11_divide_150 : decode cX11_divide 150 = .ok (.lmul, 1) := by decide +kernel
theorem dX11_divide_151 : decode cX11_divide 151 = .ok (.lsub, 1) := by decide +kernel
theorem dX11_divide_152 : decode cX11_divide 152 = .ok (.lstore 15, 2) := by decide +kernel
theorem dX11_divide_154 : decode cX11_divide 154 = .ok (.lload 6, 2) := by decide +kernel
theorem dX11_divide_156 : decode cX11_divide 156 = .ok (.lload 13, 2) := by decide +kernel
theorem dX11_divide_158 : decode cX11_divide 158 = .ok (.lload 13, 2) := by decide +kernel
theorem dX11_divide_160 : decode cX11_divide 160 = .ok (.lmul, 1) := by decide +kernel
theorem dX11_divide_161 : decode cX11_divide 161 = .ok (.ladd, 1) := by decide +kernel
theorem dX11_divide_162 : decode cX11_divide 162 = .ok (.lstore 6, 2) := by decide +kernel
theorem dX11_divide_164 : decode cX11_divide 164 = .ok (.lload 8, 2) := by decide +kernel
theorem dX11_divide_166 : decode cX11_divide 166 = .ok (.lload 15, 2) := by decide +kernel
theorem dX11_divide_168 : decode cX11_divide 168 = .ok (.lload 15, 2) := by decide +kernel
theorem dX11_divide_170 : decode cX11_divide 170 = .ok (.lmul, 1) := by decide +kernel
theorem dX11_divide_171 : decode cX11_divide 171 = .ok (.ladd, 1) := by decide +kernel
theorem dX11_divide_172 : decode cX11_divide 172 = .ok (.lstore 8, 2) := by decide +kernel
theorem dX11_divide_174 : decode cX11_divide 174 = .ok (.iinc 10 1, 3) := by decide +kernel
theorem dX11_divide_177 : decode cX11_divide 177 = .ok (.goto (-90), 3) := by decide +kernel
theorem dX11_divide_180 : decode cX11_divide 180 = .ok (.iconst 0, 1) := by decide +kernel
theorem dX11_divide_181 : decode cX11_divide 181 = .ok (.istore 10, 2) := by decide +kernel
theorem dX11_divide_183 : decode cX11_divide 183 = .ok (.iload 10, 2) := by decide +kernel
theorem dX11_divide_185 : decode cX11_divide 185 = .ok (.iconst 4, 1) := by decide +kernel
theorem dX11_divide_186 : decode cX11_divide 186 = .ok (.if_icmp .ge 77, 3) := by decide +kernel
theorem dX11_divide_189 : decode cX11_divide 189 = .ok (.aload_n 0, 1) := by decide +kernel
theorem dX11_divide_190 : decode cX11_divide 190 = .ok (.getfield 33, 3) := by decide +kernel
theorem dX11_divide_193 : decode cX11_divide 193 = .ok (.bipush 16, 2) := by decide +kernel
theorem dX11_divide_195 : decode cX11_divide 195 = .ok (.iload 10, 2) := by decide +kernel
theorem dX11_divide_197 : decode cX11_divide 197 = .ok (.iadd, 1) := by decide +kernel
theorem dX11_divide_198 : decode cX11_divide 198 = .ok (.laload, 1) := by decide +kernel
theorem dX11_divide_199 : decode cX11_divide 199 = .ok (.lload 4, 2) := by decide +kernel
theorem dX11_divide_201 : decode cX11_divide 201 = .ok (.ldiv, 1) := by decide +kernel
theorem dX11_divide_202 : decode cX11_divide 202 = .ok (.lstore 11, 2) := by decide +kernel
theorem dX11_divide_204 : decode cX11_divide 204 = .ok (.aload_n 0, 1) := by decide +kernel
theorem dX11_divide_205 : decode cX11_divide 205 = .ok (.getfield 33, 3) := by decide +kernel
theorem dX11_divide_208 : decode cX11_divide 208 = .ok (.bipush 8, 2) := by decide +kernel
theorem dX11_divide_210 : decode cX11_divide 210 = .ok (.iload 10, 2) := by decide +kernel
theorem dX11_divide_212 : decode cX11_divide 212 = .ok (.iadd, 1) := by decide +kernel
theorem dX11_divide_213 : decode cX11_divide 213 = .ok (.lload 6, 2) := by decide +kernel
theorem dX11_divide_215 : decode cX11_divide 215 = .ok (.lload 8, 2) := by decide +kernel
theorem dX11_divide_217 : decode cX11_divide 217 = .ok (.lcmp, 1) := by decide +kernel
theorem dX11_divide_218 : decode cX11_divide 218 = .ok (.ifCond .gt 22, 3) := by decide +kernel
theorem dX11_divide_221 : decode cX11_divide 221 = .ok (.ldc2_w 54, 3) := by decide +kernel
theorem dX11_divide_224 : decode cX11_divide 224 = .ok (.lload 11, 2) := by decide +kernel
theorem dX11_divide_226 : decode cX11_divide 226 = .ok (.lload_n 2, 1) := by decide +kernel
theorem dX11_divide_227 : decode cX11_divide 227 = .ok (.ladd, 1) := by decide +kernel
theorem dX11_divide_228 : decode cX11_divide 228 = .ok (.ldc2_w 54, 3) := by decide +kernel
theorem dX11_divide_231 : decode cX11_divide 231 = .ok (.lload_n 2, 1) := by decide +kernel
theorem dX11_divide_232 : decode cX11_divide 232 = .ok (.lmul, 1) := by decide +kernel
theorem dX11_divide_233 : decode cX11_divide 233 = .ok (.invokestatic 150, 3) := by decide +kernel
theorem dX11_divide_236 : decode cX11_divide 236 = .ok (.lmul, 1) := by decide +kernel
theorem dX11_divide_237 : decode cX11_divide 237 = .ok (.goto 19, 3) := by decide +kernel
theorem dX11_divide_240 : decode cX11_divide 240 = .ok (.ldc2_w 54, 3) := by decide +kernel
theorem dX11_divide_243 : decode cX11_divide 243 = .ok (.lload 11, 2) := by decide +kernel
theorem dX11_divide_245 : decode cX11_divide 245 = .ok (.ldc2_w 54, 3) := by decide +kernel
theorem dX11_divide_248 : decode cX11_divide 248 = .ok (.lload_n 2, 1) := by decide +kernel
theorem dX11_divide_249 : decode cX11_divide 249 = .ok (.lmul, 1) := by decide +kernel
theorem dX11_divide_250 : decode cX11_divide 250 = .ok (.invokestatic 150, 3) := by decide +kernel
theorem dX11_divide_253 : decode cX11_divide 253 = .ok (.lmul, 1) := by decide +kernel
theorem dX11_divide_254 : decode cX11_divide 254 = .ok (.lconst 1, 1) := by decide +kernel
theorem dX11_divide_255 : decode cX11_divide 255 = .ok (.ladd, 1) := by decide +kernel
theorem dX11_divide_256 : decode cX11_divide 256 = .ok (.lastore, 1) := by decide +kernel
theorem dX11_divide_257 : decode cX11_divide 257 = .ok (.iinc 10 1, 3) := by decide +kernel
theorem dX11_divide_260 : decode cX11_divide 260 = .ok (.goto (-77), 3) := by decide +kernel
theorem dX11_divide_263 : decode cX11_divide 263 = .ok (.iload_n 1, 1) := by decide +kernel
theorem dX11_divide_264 : decode cX11_divide 264 = .ok (.ifCond .ne 15, 3) := by decide +kernel
theorem dX11_divide_267 : decode cX11_divide 267 = .ok (.aload_n 0, 1) := by decide +kernel
theorem dX11_divide_268 : decode cX11_divide 268 = .ok (.bipush 16, 2) := by decide +kernel
theorem dX11_divide_270 : decode cX11_divide 270 = .ok (.iconst 4, 1) := by decide +kernel
theorem dX11_divide_271 : decode cX11_divide 271 = .ok (.bipush 8, 2) := by decide +kernel
theorem dX11_divide_273 : decode cX11_divide 273 = .ok (.invokevirtual 139, 3) := by decide +kernel
theorem dX11_divide_276 : decode cX11_divide 276 = .ok (.goto 12, 3) := by decide +kernel
theorem dX11_divide_279 : decode cX11_divide 279 = .ok (.aload_n 0, 1) := by decide +kernel
theorem dX11_divide_280 : decode cX11_divide 280 = .ok (.bipush 16, 2) := by decide +kernel
theorem dX11_divide_282 : decode cX11_divide 282 = .ok (.bipush 8, 2) := by decide +kernel
theorem dX11_divide_284 : decode cX11_divide 284 = .ok (.iconst 4, 1) := by decide +kernel
theorem dX11_divide_285 : decode cX11_divide 285 = .ok (.invokevirtual 139, 3) := by decide +kernel
theorem dX11_divide_288 : decode cX11_divide 288 = .ok (.iconst 0, 1) := by decide +kernel
theorem dX11_divide_289 : decode cX11_divide 289 = .ok (.istore 10, 2) := by decide +kernel
theorem dX11_divide_291 : decode cX11_divide 291 = .ok (.iload 10, 2) := by decide +kernel
theorem dX11_divide_293 : decode cX11_divide 293 = .ok (.iconst 4, 1) := by decide +kernel
theorem dX11_divide_294 : decode cX11_divide 294 = .ok (.if_icmp .ge 39, 3) := by decide +kernel
theorem dX11_divide_297 : decode cX11_divide 297 = .ok (.aload_n 0, 1) := by decide +kernel
theorem dX11_divide_298 : decode cX11_divide 298 = .ok (.getfield 33, 3) := by decide +kernel
theorem dX11_divide_301 : decode cX11_divide 301 = .ok (.bipush 12, 2) := by decide +kernel
theorem dX11_divide_303 : decode cX11_divide 303 = .ok (.iload 10, 2) := by decide +kernel
theorem dX11_divide_305 : decode cX11_divide 305 = .ok (.iadd, 1) := by decide +kernel
theorem dX11_divide_306 : decode cX11_divide 306 = .ok (.aload_n 0, 1) := by decide +kernel
theorem dX11_divide_307 : decode cX11_divide 307 = .ok (.getfield 33, 3) := by decide +kernel
theorem dX11_divide_310 : decode cX11_divide 310 = .ok (.iconst 0, 1) := by decide +kernel
theorem dX11_divide_311 : decode cX11_divide 311 = .ok (.iload 10, 2) := by decide +kernel
theorem dX11_divide_313 : decode cX11_divide 313 = .ok (.iadd, 1) := by decide +kernel
theorem dX11_divide_314 : decode cX11_divide 314 = .ok (.laload, 1) := by decide +kernel
theorem dX11_divide_315 : decode cX11_divide 315 = .ok (.aload_n 0, 1) := by decide +kernel
theorem dX11_divide_316 : decode cX11_divide 316 = .ok (.getfield 33, 3) := by decide +kernel
theorem dX11_divide_319 : decode cX11_divide 319 = .ok (.bipush 16, 2) := by decide +kernel
theorem dX11_divide_321 : decode cX11_divide 321 = .ok (.iload 10, 2) := by decide +kernel
theorem dX11_divide_323 : decode cX11_divide 323 = .ok (.iadd, 1) := by decide +kernel
theorem dX11_divide_324 : decode cX11_divide 324 = .ok (.laload, 1) := by decide +kernel
theorem dX11_divide_325 : decode cX11_divide 325 = .ok (.lsub, 1) := by decide +kernel
theorem dX11_divide_326 : decode cX11_divide 326 = .ok (.lastore, 1) := by decide +kernel
theorem dX11_divide_327 : decode cX11_divide 327 = .ok (.iinc 10 1, 3) := by decide +kernel
theorem dX11_divide_330 : decode cX11_divide 330 = .ok (.goto (-39), 3) := by decide +kernel
theorem dX11_divide_333 : decode cX11_divide 333 = .ok (.return_, 1) := by decide +kernel
theorem dX11_over_0 : decode cX11_over 0 = .ok (.iload_n 1, 1) := by decide +kernel
theorem dX11_over_1 : decode cX11_over 1 = .ok (.invokestatic 92, 3) := by decide +kernel
theorem dX11_over_4 : decode cX11_over 4 = .ok (.ifCond .eq 36, 3) := by decide +kernel
theorem dX11_over_7 : decode cX11_over 7 = .ok (.iload_n 2, 1) := by decide +kernel
theorem dX11_over_8 : decode cX11_over 8 = .ok (.invokestatic 92, 3) := by decide +kernel
theorem dX11_over_11 : decode cX11_over 11 = .ok (.ifCond .eq 29, 3) := by decide +kernel
theorem dX11_over_14 : decode cX11_over 14 = .ok (.iload_n 3, 1) := by decide +kernel
theorem dX11_over_15 : decode cX11_over 15 = .ok (.invokestatic 92, 3) := by decide +kernel
theorem dX11_over_18 : decode cX11_over 18 = .ok (.ifCond .eq 22, 3) := by decide +kernel
theorem dX11_over_21 : decode cX11_over 21 = .ok (.iload 4, 2) := by decide +kernel
theorem dX11_over_23 : decode cX11_over 23 = .ok (.invokestatic 92, 3) := by decide +kernel
theorem dX11_over_26 : decode cX11_over 26 = .ok (.ifCond .eq 14, 3) := by decide +kernel
theorem dX11_over_29 : decode cX11_over 29 = .ok (.iload 5, 2) := by decide +kernel
theorem dX11_over_31 : decode cX11_over 31 = .ok (.i2l, 1) := by decide +kernel
theorem dX11_over_32 : decode cX11_over 32 = .ok (.lconst 0, 1) := by decide +kernel
theorem dX11_over_33 : decode cX11_over 33 = .ok (.lconst 1, 1) := by decide +kernel
theorem dX11_over_34 : decode cX11_over 34 = .ok (.invokestatic 46, 3) := by decide +kernel
theorem dX11_over_37 : decode cX11_over 37 = .ok (.ifCond .ne 6, 3) := by decide +kernel
theorem dX11_over_40 : decode cX11_over 40 = .ok (.ldc 56, 2) := by decide +kernel
theorem dX11_over_42 : decode cX11_over 42 = .ok (.ireturn, 1) := by decide +kernel
theorem dX11_over_43 : decode cX11_over 43 = .ok (.aload_n 0, 1) := by decide +kernel
theorem dX11_over_44 : decode cX11_over 44 = .ok (.getfield 7, 3) := by decide +kernel
theorem dX11_over_47 : decode cX11_over 47 = .ok (.iload_n 3, 1) := by decide +kernel
theorem dX11_over_48 : decode cX11_over 48 = .ok (.baload, 1) := by decide +kernel
theorem dX11_over_49 : decode cX11_over 49 = .ok (.ifCond .eq 13, 3) := by decide +kernel
theorem dX11_over_52 : decode cX11_over 52 = .ok (.aload_n 0, 1) := by decide +kernel
theorem dX11_over_53 : decode cX11_over 53 = .ok (.getfield 7, 3) := by decide +kernel
theorem dX11_over_56 : decode cX11_over 56 = .ok (.iload 4, 2) := by decide +kernel
theorem dX11_over_58 : decode cX11_over 58 = .ok (.baload, 1) := by decide +kernel
theorem dX11_over_59 : decode cX11_over 59 = .ok (.ifCond .ne 9, 3) := by decide +kernel
theorem dX11_over_62 : decode cX11_over 62 = .ok (.aload_n 0, 1) := by decide +kernel
theorem dX11_over_63 : decode cX11_over 63 = .ok (.iconst 1, 1) := by decide +kernel
theorem dX11_over_64 : decode cX11_over 64 = .ok (.invokevirtual 57, 3) := by decide +kernel
theorem dX11_over_67 : decode cX11_over 67 = .ok (.ireturn, 1) := by decide +kernel
theorem dX11_over_68 : decode cX11_over 68 = .ok (.aload_n 0, 1) := by decide +kernel
theorem dX11_over_69 : decode cX11_over 69 = .ok (.iconst 0, 1) := by decide +kernel
theorem dX11_over_70 : decode cX11_over 70 = .ok (.iload_n 3, 1) := by decide +kernel
theorem dX11_over_71 : decode cX11_over 71 = .ok (.invokevirtual 111, 3) := by decide +kernel
theorem dX11_over_74 : decode cX11_over 74 = .ok (.aload_n 0, 1) := by decide +kernel
theorem dX11_over_75 : decode cX11_over 75 = .ok (.iconst 4, 1) := by decide +kernel
theorem dX11_over_76 : decode cX11_over 76 = .ok (.iload 4, 2) := by decide +kernel
theorem dX11_over_78 : decode cX11_over 78 = .ok (.invokevirtual 111, 3) := by decide +kernel
theorem dX11_over_81 : decode cX11_over 81 = .ok (.aload_n 0, 1) := by decide +kernel
theorem dX11_over_82 : decode cX11_over 82 = .ok (.iconst 4, 1) := by decide +kernel
theorem dX11_over_83 : decode cX11_over 83 = .ok (.invokevirtual 76, 3) := by decide +kernel
theorem dX11_over_86 : decode cX11_over 86 = .ok (.ifCond .eq 6, 3) := by decide +kernel
theorem dX11_over_89 : decode cX11_over 89 = .ok (.ldc 153, 2) := by decide +kernel
theorem dX11_over_91 : decode cX11_over 91 = .ok (.ireturn, 1) := by decide +kernel
theorem dX11_over_92 : decode cX11_over 92 = .ok (.aload_n 0, 1) := by decide +kernel
theorem dX11_over_93 : decode cX11_over 93 = .ok (.iload 5, 2) := by decide +kernel
theorem dX11_over_95 : decode cX11_over 95 = .ok (.invokevirtual 154, 3) := by decide +kernel
theorem dX11_over_98 : decode cX11_over 98 = .ok (.aload_n 0, 1) := by decide +kernel
theorem dX11_over_99 : decode cX11_over 99 = .ok (.iload_n 2, 1) := by decide +kernel
theorem dX11_over_100 : decode cX11_over 100 = .ok (.bipush 12, 2) := by decide +kernel
theorem dX11_over_102 : decode cX11_over 102 = .ok (.invokevirtual 102, 3) := by decide +kernel
theorem dX11_over_105 : decode cX11_over 105 = .ok (.aload_n 0, 1) := by decide +kernel
theorem dX11_over_106 : decode cX11_over 106 = .ok (.iload_n 1, 1) := by decide +kernel
theorem dX11_over_107 : decode cX11_over 107 = .ok (.bipush 8, 2) := by decide +kernel
theorem dX11_over_109 : decode cX11_over 109 = .ok (.invokevirtual 102, 3) := by decide +kernel
theorem dX11_over_112 : decode cX11_over 112 = .ok (.aload_n 0, 1) := by decide +kernel
theorem dX11_over_113 : decode cX11_over 113 = .ok (.aload_n 0, 1) := by decide +kernel
theorem dX11_over_114 : decode cX11_over 114 = .ok (.bipush 12, 2) := by decide +kernel
theorem dX11_over_116 : decode cX11_over 116 = .ok (.invokevirtual 83, 3) := by decide +kernel
theorem dX11_over_119 : decode cX11_over 119 = .ok (.l2i, 1) := by decide +kernel
theorem dX11_over_120 : decode cX11_over 120 = .ok (.invokevirtual 61, 3) := by decide +kernel
theorem dX11_over_123 : decode cX11_over 123 = .ok (.ireturn, 1) := by decide +kernel
theorem dX11_isLess_0 : decode cX11_isLess 0 = .ok (.iconst 0, 1) := by decide +kernel
theorem dX11_isLess_1 : decode cX11_isLess 1 = .ok (.istore_n 3, 1) := by decide +kernel
theorem dX11_isLess_2 : decode cX11_isLess 2 = .ok (.iload_n 3, 1) := by decide +kernel
theorem dX11_isLess_3 : decode cX11_isLess 3 = .ok (.iconst 4, 1) := by decide +kernel
theorem dX11_isLess_4 : decode cX11_isLess 4 = .ok (.if_icmp .ge 55, 3) := by decide +kernel
theorem dX11_isLess_7 : decode cX11_isLess 7 = .ok (.aload_n 0, 1) := by decide +kernel
theorem dX11_isLess_8 : decode cX11_isLess 8 = .ok (.getfield 33, 3) := by decide +kernel
theorem dX11_isLess_11 : decode cX11_isLess 11 = .ok (.iload_n 1, 1) := by decide +kernel
theorem dX11_isLess_12 : decode cX11_isLess 12 = .ok (.iload_n 3, 1) := by decide +kernel
theorem dX11_isLess_13 : decode cX11_isLess 13 = .ok (.iadd, 1) := by decide +kernel
theorem dX11_isLess_14 : decode cX11_isLess 14 = .ok (.laload, 1) := by decide +kernel
theorem dX11_isLess_15 : decode cX11_isLess 15 = .ok (.aload_n 0, 1) := by decide +kernel
theorem dX11_isLess_16 : decode cX11_isLess 16 = .ok (.getfield 33, 3) := by decide +kernel
theorem dX11_isLess_19 : decode cX11_isLess 19 = .ok (.iload_n 2, 1) := by decide +kernel
theorem dX11_isLess_20 : decode cX11_isLess 20 = .ok (.iload_n 3, 1) := by decide +kernel
theorem dX11_isLess_21 : decode cX11_isLess 21 = .ok (.iadd, 1) := by decide +kernel
theorem dX11_isLess_22 : decode cX11_isLess 22 = .ok (.laload, 1) := by decide +kernel
theorem dX11_isLess_23 : decode cX11_isLess 23 = .ok (.lcmp, 1) := by decide +kernel
theorem dX11_isLess_24 : decode cX11_isLess 24 = .ok (.ifCond .eq 29, 3) := by decide +kernel
theorem dX11_isLess_27 : decode cX11_isLess 27 = .ok (.aload_n 0, 1) := by decide +kernel
theorem dX11_isLess_28 : decode cX11_isLess 28 = .ok (.getfield 33, 3) := by decide +kernel
theorem dX11_isLess_31 : decode cX11_isLess 31 = .ok (.iload_n 1, 1) := by decide +kernel
theorem dX11_isLess_32 : decode cX11_isLess 32 = .ok (.iload_n 3, 1) := by decide +kernel
theorem dX11_isLess_33 : decode cX11_isLess 33 = .ok (.iadd, 1) := by decide +kernel
theorem dX11_isLess_34 : decode cX11_isLess 34 = .ok (.laload, 1) := by decide +kernel
theorem dX11_isLess_35 : decode cX11_isLess 35 = .ok (.aload_n 0, 1) := by decide +kernel
theorem dX11_isLess_36 : decode cX11_isLess 36 = .ok (.getfield 33, 3) := by decide +kernel
theorem dX11_isLess_39 : decode cX11_isLess 39 = .ok (.iload_n 2, 1) := by decide +kernel
theorem dX11_isLess_40 : decode cX11_isLess 40 = .ok (.iload_n 3, 1) := by decide +kernel
theorem dX11_isLess_41 : decode cX11_isLess 41 = .ok (.iadd, 1) := by decide +kernel
theorem dX11_isLess_42 : decode cX11_isLess 42 = .ok (.laload, 1) := by decide +kernel
theorem dX11_isLess_43 : decode cX11_isLess 43 = .ok (.lcmp, 1) := by decide +kernel
theorem dX11_isLess_44 : decode cX11_isLess 44 = .ok (.ifCond .ge 7, 3) := by decide +kernel
theorem dX11_isLess_47 : decode cX11_isLess 47 = .ok (.iconst 1, 1) := by decide +kernel
theorem dX11_isLess_48 : decode cX11_isLess 48 = .ok (.goto 4, 3) := by decide +kernel
theorem dX11_isLess_51 : decode cX11_isLess 51 = .ok (.iconst 0, 1) := by decide +kernel
theorem dX11_isLess_52 : decode cX11_isLess 52 = .ok (.ireturn, 1) := by decide +kernel
theorem dX11_isLess_53 : decode cX11_isLess 53 = .ok (.iinc 3 1, 3) := by decide +kernel
theorem dX11_isLess_56 : decode cX11_isLess 56 = .ok (.goto (-54), 3) := by decide +kernel
theorem dX11_isLess_59 : decode cX11_isLess 59 = .ok (.iconst 0, 1) := by decide +kernel
theorem dX11_isLess_60 : decode cX11_isLess 60 = .ok (.ireturn, 1) := by decide +kernel
theorem dX11_unit_0 : decode cX11_unit 0 = .ok (.iload_n 2, 1) := by decide +kernel
theorem dX11_unit_1 : decode cX11_unit 1 = .ok (.bipush 8, 2) := by decide +kernel
theorem dX11_unit_3 : decode cX11_unit 3 = .ok (.if_icmp .ge 40, 3) := by decide +kernel
theorem dX11_unit_6 : decode cX11_unit 6 = .ok (.aload_n 0, 1) := by decide +kernel
theorem dX11_unit_7 : decode cX11_unit 7 = .ok (.iload_n 1, 1) := by decide +kernel
theorem dX11_unit_8 : decode cX11_unit 8 = .ok (.lconst 0, 1) := by decide +kernel
theorem dX11_unit_9 : decode cX11_unit 9 = .ok (.lconst 0, 1) := by decide +kernel
theorem dX11_unit_10 : decode cX11_unit 10 = .ok (.lconst 0, 1) := by decide +kernel
theorem dX11_unit_11 : decode cX11_unit 11 = .ok (.lconst 0, 1) := by decide +kernel
theorem dX11_unit_12 : decode cX11_unit 12 = .ok (.invokevirtual 68, 3) := by decide +kernel
theorem dX11_unit_15 : decode cX11_unit 15 = .ok (.aload_n 0, 1) := by decide +kernel
theorem dX11_unit_16 : decode cX11_unit 16 = .ok (.getfield 33, 3) := by decide +kernel
theorem dX11_unit_19 : decode cX11_unit 19 = .ok (.iload_n 1, 1) := by decide +kernel
theorem dX11_unit_20 : decode cX11_unit 20 = .ok (.iload_n 2, 1) := by decide +kernel
theorem dX11_unit_21 : decode cX11_unit 21 = .ok (.iconst 2, 1) := by decide +kernel
theorem dX11_unit_22 : decode cX11_unit 22 = .ok (.idiv, 1) := by decide +kernel
theorem dX11_unit_23 : decode cX11_unit 23 = .ok (.iadd, 1) := by decide +kernel
theorem dX11_unit_24 : decode cX11_unit 24 = .ok (.iload_n 2, 1) := by decide +kernel
theorem dX11_unit_25 : decode cX11_unit 25 = .ok (.iconst 2, 1) := by decide +kernel
theorem dX11_unit_26 : decode cX11_unit 26 = .ok (.irem, 1) := by decide +kernel
theorem dX11_unit_27 : decode cX11_unit 27 = .ok (.ifCond .ne 9, 3) := by decide +kernel
theorem dX11_unit_30 : decode cX11_unit 30 = .ok (.ldc2_w 54, 3) := by decide +kernel
theorem dX11_unit_33 : decode cX11_unit 33 = .ok (.goto 6, 3) := by decide +kernel
theorem dX11_unit_36 : decode cX11_unit 36 = .ok (.ldc2_w 157, 3) := by decide +kernel
theorem dX11_unit_39 : decode cX11_unit 39 = .ok (.lastore, 1) := by decide +kernel
theorem dX11_unit_40 : decode cX11_unit 40 = .ok (.goto 66, 3) := by decide +kernel
theorem dX11_unit_43 : decode cX11_unit 43 = .ok (.iload_n 2, 1) := by decide +kernel
theorem dX11_unit_44 : decode cX11_unit 44 = .ok (.bipush 8, 2) := by decide +kernel
theorem dX11_unit_46 : decode cX11_unit 46 = .ok (.isub, 1) := by decide +kernel
theorem dX11_unit_47 : decode cX11_unit 47 = .ok (.istore_n 3, 1) := by decide +kernel
theorem dX11_unit_48 : decode cX11_unit 48 = .ok (.aload_n 0, 1) := by decide +kernel
theorem dX11_unit_49 : decode cX11_unit 49 = .ok (.iload_n 1, 1) := by decide +kernel
theorem dX11_unit_50 : decode cX11_unit 50 = .ok (.iload_n 3, 1) := by decide +kernel
theorem dX11_unit_51 : decode cX11_unit 51 = .ok (.iconst 1, 1) := by decide +kernel
theorem dX11_unit_52 : decode cX11_unit 52 = .ok (.iand, 1) := by decide +kernel
theorem dX11_unit_53 : decode cX11_unit 53 = .ok (.ifCond .ne 7, 3) := by decide +kernel
theorem dX11_unit_56 : decode cX11_unit 56 = .ok (.lconst 1, 1) := by decide +kernel
theorem dX11_unit_57 : decode cX11_unit 57 = .ok (.goto 6, 3) := by decide +kernel
theorem dX11_unit_60 : decode cX11_unit 60 = .ok (.ldc2_w 159, 3) := by decide +kernel
theorem dX11_unit_63 : decode cX11_unit 63 = .ok (.iload_n 3, 1) := by decide +kernel
theorem dX11_unit_64 : decode cX11_unit 64 = .ok (.iconst 2, 1) := by decide +kernel
theorem dX11_unit_65 : decode cX11_unit 65 = .ok (.iand, 1) := by decide +kernel
theorem dX11_unit_66 : decode cX11_unit 66 = .ok (.ifCond .ne 7, 3) := by decide +kernel
theorem dX11_unit_69 : decode cX11_unit 69 = .ok (.lconst 1, 1) := by decide +kernel
theorem dX11_unit_70 : decode cX11_unit 70 = .ok (.goto 6, 3) := by decide +kernel
theorem dX11_unit_73 : decode cX11_unit 73 = .ok (.ldc2_w 159, 3) := by decide +kernel
theorem dX11_unit_76 : decode cX11_unit 76 = .ok (.iload_n 3, 1) := by decide +kernel
theorem dX11_unit_77 : decode cX11_unit 77 = .ok (.iconst 4, 1) := by decide +kernel
theorem dX11_unit_78 : decode cX11_unit 78 = .ok (.iand, 1) := by decide +kernel
theorem dX11_unit_79 : decode cX11_unit 79 = .ok (.ifCond .ne 7, 3) := by decide +kernel
theorem dX11_unit_82 : decode cX11_unit 82 = .ok (.lconst 1, 1) := by decide +kernel
theorem dX11_unit_83 : decode cX11_unit 83 = .ok (.goto 6, 3) := by decide +kernel
theorem dX11_unit_86 : decode cX11_unit 86 = .ok (.ldc2_w 159, 3) := by decide +kernel
theorem dX11_unit_89 : decode cX11_unit 89 = .ok (.iload_n 3, 1) := by decide +kernel
theorem dX11_unit_90 : decode cX11_unit 90 = .ok (.bipush 8, 2) := by decide +kernel
theorem dX11_unit_92 : decode cX11_unit 92 = .ok (.iand, 1) := by decide +kernel
theorem dX11_unit_93 : decode cX11_unit 93 = .ok (.ifCond .ne 7, 3) := by decide +kernel
theorem dX11_unit_96 : decode cX11_unit 96 = .ok (.lconst 1, 1) := by decide +kernel
theorem dX11_unit_97 : decode cX11_unit 97 = .ok (.goto 6, 3) := by decide +kernel
theorem dX11_unit_100 : decode cX11_unit 100 = .ok (.ldc2_w 159, 3) := by decide +kernel
theorem dX11_unit_103 : decode cX11_unit 103 = .ok (.invokevirtual 68, 3) := by decide +kernel
theorem dX11_unit_106 : decode cX11_unit 106 = .ok (.return_, 1) := by decide +kernel
theorem dX11_associateP_0 : decode cX11_associateP 0 = .ok (.iconst 0, 1) := by decide +kernel
theorem dX11_associateP_1 : decode cX11_associateP 1 = .ok (.istore_n 2, 1) := by decide +kernel
theorem dX11_associateP_2 : decode cX11_associateP 2 = .ok (.iload_n 2, 1) := by decide +kernel
theorem dX11_associateP_3 : decode cX11_associateP 3 = .ok (.bipush 24, 2) := by decide +kernel
theorem dX11_associateP_5 : decode cX11_associateP 5 = .ok (.if_icmp .ge 64, 3) := by decide +kernel
theorem dX11_associateP_8 : decode cX11_associateP 8 = .ok (.aload_n 0, 1) := by decide +kernel
theorem dX11_associateP_9 : decode cX11_associateP 9 = .ok (.bipush 24, 2) := by decide +kernel
theorem dX11_associateP_11 : decode cX11_associateP 11 = .ok (.iload_n 2, 1) := by decide +kernel
theorem dX11_associateP_12 : decode cX11_associateP 12 = .ok (.invokevirtual 161, 3) := by decide +kernel
theorem dX11_associateP_15 : decode cX11_associateP 15 = .ok (.iload_n 1, 1) := by decide +kernel
theorem dX11_associateP_16 : decode cX11_associateP 16 = .ok (.ifCond .ne 15, 3) := by decide +kernel
theorem dX11_associateP_19 : decode cX11_associateP 19 = .ok (.aload_n 0, 1) := by decide +kernel
theorem dX11_associateP_20 : decode cX11_associateP 20 = .ok (.bipush 8, 2) := by decide +kernel
theorem dX11_associateP_22 : decode cX11_associateP 22 = .ok (.bipush 24, 2) := by decide +kernel
theorem dX11_associateP_24 : decode cX11_associateP 24 = .ok (.iconst 0, 1) := by decide +kernel
theorem dX11_associateP_25 : decode cX11_associateP 25 = .ok (.invokevirtual 139, 3) := by decide +kernel
theorem dX11_associateP_28 : decode cX11_associateP 28 = .ok (.goto 12, 3) := by decide +kernel
theorem dX11_associateP_31 : decode cX11_associateP 31 = .ok (.aload_n 0, 1) := by decide +kernel
theorem dX11_associateP_32 : decode cX11_associateP 32 = .ok (.bipush 8, 2) := by decide +kernel
theorem dX11_associateP_34 : decode cX11_associateP 34 = .ok (.iconst 0, 1) := by decide +kernel
theorem dX11_associateP_35 : decode cX11_associateP 35 = .ok (.bipush 24, 2) := by decide +kernel
theorem dX11_associateP_37 : decode cX11_associateP 37 = .ok (.invokevirtual 139, 3) := by decide +kernel
theorem dX11_associateP_40 : decode cX11_associateP 40 = .ok (.iload_n 2, 1) := by decide +kernel
theorem dX11_associateP_41 : decode cX11_associateP 41 = .ok (.ifCond .eq 14, 3) := by decide +kernel
theorem dX11_associateP_44 : decode cX11_associateP 44 = .ok (.aload_n 0, 1) := by decide +kernel
theorem dX11_associateP_45 : decode cX11_associateP 45 = .ok (.bipush 20, 2) := by decide +kernel
theorem dX11_associateP_47 : decode cX11_associateP 47 = .ok (.bipush 8, 2) := by decide +kernel
theorem dX11_associateP_49 : decode cX11_associateP 49 = .ok (.invokevirtual 164, 3) := by decide +kernel
theorem dX11_associateP_52 : decode cX11_associateP 52 = .ok (.ifCond .eq 11, 3) := by decide +kernel
theorem dX11_associateP_55 : decode cX11_associateP 55 = .ok (.aload_n 0, 1) := by decide +kernel
theorem dX11_associateP_56 : decode cX11_associateP 56 = .ok (.bipush 20, 2) := by decide +kernel
theorem dX11_associateP_58 : decode cX11_associateP 58 = .ok (.bipush 8, 2) := by decide +kernel
theorem dX11_associateP_60 : decode cX11_associateP 60 = .ok (.invokevirtual 167, 3) := by decide +kernel
theorem dX11_associateP_63 : decode cX11_associateP 63 = .ok (.iinc 2 1, 3) := by decide +kernel
theorem dX11_associateP_66 : decode cX11_associateP 66 = .ok (.goto (-64), 3) := by decide +kernel
theorem dX11_associateP_69 : decode cX11_associateP 69 = .ok (.aload_n 0, 1) := by decide +kernel
theorem dX11_associateP_70 : decode cX11_associateP 70 = .ok (.iconst 0, 1) := by decide +kernel
theorem dX11_associateP_71 : decode cX11_associateP 71 = .ok (.bipush 20, 2) := by decide +kernel
theorem dX11_associateP_73 : decode cX11_associateP 73 = .ok (.invokevirtual 167, 3) := by decide +kernel
theorem dX11_associateP_76 : decode cX11_associateP 76 = .ok (.return_, 1) := by decide +kernel
theorem dX11_greatestP_0 : decode cX11_greatestP 0 = .ok (.aload_n 0, 1) := by decide +kernel
theorem dX11_greatestP_1 : decode cX11_greatestP 1 = .ok (.iconst 4, 1) := by decide +kernel
theorem dX11_greatestP_2 : decode cX11_greatestP 2 = .ok (.invokevirtual 76, 3) := by decide +kernel
theorem dX11_greatestP_5 : decode cX11_greatestP 5 = .ok (.ifCond .ne 24, 3) := by decide +kernel
theorem dX11_greatestP_8 : decode cX11_greatestP 8 = .ok (.aload_n 0, 1) := by decide +kernel
theorem dX11_greatestP_9 : decode cX11_greatestP 9 = .ok (.iload_n 1, 1) := by decide +kernel
theorem dX11_greatestP_10 : decode cX11_greatestP 10 = .ok (.invokevirtual 154, 3) := by decide +kernel
theorem dX11_greatestP_13 : decode cX11_greatestP 13 = .ok (.aload_n 0, 1) := by decide +kernel
theorem dX11_greatestP_14 : decode cX11_greatestP 14 = .ok (.iconst 0, 1) := by decide +kernel
theorem dX11_greatestP_15 : decode cX11_greatestP 15 = .ok (.iconst 4, 1) := by decide +kernel
theorem dX11_greatestP_16 : decode cX11_greatestP 16 = .ok (.invokevirtual 167, 3) := by decide +kernel
theorem dX11_greatestP_19 : decode cX11_greatestP 19 = .ok (.aload_n 0, 1) := by decide +kernel
theorem dX11_greatestP_20 : decode cX11_greatestP 20 = .ok (.iconst 4, 1) := by decide +kernel
theorem dX11_greatestP_21 : decode cX11_greatestP 21 = .ok (.bipush 12, 2) := by decide +kernel
theorem dX11_greatestP_23 : decode cX11_greatestP 23 = .ok (.invokevirtual 167, 3) := by decide +kernel
theorem dX11_greatestP_26 : decode cX11_greatestP 26 = .ok (.goto (-26), 3) := by decide +kernel
theorem dX11_greatestP_29 : decode cX11_greatestP 29 = .ok (.aload_n 0, 1) := by decide +kernel
theorem dX11_greatestP_30 : decode cX11_greatestP 30 = .ok (.iconst 1, 1) := by decide +kernel
theorem dX11_greatestP_31 : decode cX11_greatestP 31 = .ok (.iload_n 1, 1) := by decide +kernel
theorem dX11_greatestP_32 : decode cX11_greatestP 32 = .ok (.isub, 1) := by decide +kernel
theorem dX11_greatestP_33 : decode cX11_greatestP 33 = .ok (.invokevirtual 170, 3) := by decide +kernel
theorem dX11_greatestP_36 : decode cX11_greatestP 36 = .ok (.return_, 1) := by decide +kernel
theorem dX11_greatest_0 : decode cX11_greatest 0 = .ok (.iload_n 1, 1) := by decide +kernel
theorem dX11_greatest_1 : decode cX11_greatest 1 = .ok (.invokestatic 92, 3) := by decide +kernel
theorem dX11_greatest_4 : decode cX11_greatest 4 = .ok (.ifCond .eq 28, 3) := by decide +kernel
theorem dX11_greatest_7 : decode cX11_greatest 7 = .ok (.iload_n 2, 1) := by decide +kernel
theorem dX11_greatest_8 : decode cX11_greatest 8 = .ok (.invokestatic 92, 3) := by decide +kernel
theorem dX11_greatest_11 : decode cX11_greatest 11 = .ok (.ifCond .eq 21, 3) := by decide +kernel
theorem dX11_greatest_14 : decode cX11_greatest 14 = .ok (.iload_n 3, 1) := by decide +kernel
theorem dX11_greatest_15 : decode cX11_greatest 15 = .ok (.invokestatic 92, 3) := by decide +kernel
theorem dX11_greatest_18 : decode cX11_greatest 18 = .ok (.ifCond .eq 14, 3) := by decide +kernel
theorem dX11_greatest_21 : decode cX11_greatest 21 = .ok (.iload 4, 2) := by decide +kernel
theorem dX11_greatest_23 : decode cX11_greatest 23 = .ok (.i2l, 1) := by decide +kernel
theorem dX11_greatest_24 : decode cX11_greatest 24 = .ok (.lconst 0, 1) := by decide +kernel
theorem dX11_greatest_25 : decode cX11_greatest 25 = .ok (.lconst 1, 1) := by decide +kernel
theorem dX11_greatest_26 : decode cX11_greatest 26 = .ok (.invokestatic 46, 3) := by decide +kernel
theorem dX11_greatest_29 : decode cX11_greatest 29 = .ok (.ifCond .ne 6, 3) := by decide +kernel
theorem dX11_greatest_32 : decode cX11_greatest 32 = .ok (.ldc 56, 2) := by decide +kernel
theorem dX11_greatest_34 : decode cX11_greatest 34 = .ok (.ireturn, 1) := by decide +kernel
theorem dX11_greatest_35 : decode cX11_greatest 35 = .ok (.aload_n 0, 1) := by decide +kernel
theorem dX11_greatest_36 : decode cX11_greatest 36 = .ok (.getfield 7, 3) := by decide +kernel
theorem dX11_greatest_39 : decode cX11_greatest 39 = .ok (.iload_n 2, 1) := by decide +kernel
theorem dX11_greatest_40 : decode cX11_greatest 40 = .ok (.baload, 1) := by decide +kernel
theorem dX11_greatest_41 : decode cX11_greatest 41 = .ok (.ifCond .eq 12, 3) := by decide +kernel
theorem dX11_greatest_44 : decode cX11_greatest 44 = .ok (.aload_n 0, 1) := by decide +kernel
theorem dX11_greatest_45 : decode cX11_greatest 45 = .ok (.getfield 7, 3) := by decide +kernel
theorem dX11_greatest_48 : decode cX11_greatest 48 = .ok (.iload_n 3, 1) := by decide +kernel
theorem dX11_greatest_49 : decode cX11_greatest 49 = .ok (.baload, 1) := by decide +kernel
theorem dX11_greatest_50 : decode cX11_greatest 50 = .ok (.ifCond .ne 9, 3) := by decide +kernel
theorem dX11_greatest_53 : decode cX11_greatest 53 = .ok (.aload_n 0, 1) := by decide +kernel
theorem dX11_greatest_54 : decode cX11_greatest 54 = .ok (.iconst 1, 1) := by decide +kernel
theorem dX11_greatest_55 : decode cX11_greatest 55 = .ok (.invokevirtual 57, 3) := by decide +kernel
theorem dX11_greatest_58 : decode cX11_greatest 58 = .ok (.ireturn, 1) := by decide +kernel
theorem dX11_greatest_59 : decode cX11_greatest 59 = .ok (.aload_n 0, 1) := by decide +kernel
theorem dX11_greatest_60 : decode cX11_greatest 60 = .ok (.iconst 0, 1) := by decide +kernel
theorem dX11_greatest_61 : decode cX11_greatest 61 = .ok (.iload_n 2, 1) := by decide +kernel
theorem dX11_greatest_62 : decode cX11_greatest 62 = .ok (.invokevirtual 111, 3) := by decide +kernel
theorem dX11_greatest_65 : decode cX11_greatest 65 = .ok (.aload_n 0, 1) := by decide +kernel
theorem dX11_greatest_66 : decode cX11_greatest 66 = .ok (.iconst 4, 1) := by decide +kernel
theorem dX11_greatest_67 : decode cX11_greatest 67 = .ok (.iload_n 3, 1) := by decide +kernel
theorem dX11_greatest_68 : decode cX11_greatest 68 = .ok (.invokevirtual 111, 3) := by decide +kernel
theorem dX11_greatest_71 : decode cX11_greatest 71 = .ok (.aload_n 0, 1) := by decide +kernel
theorem dX11_greatest_72 : decode cX11_greatest 72 = .ok (.iconst 0, 1) := by decide +kernel
theorem dX11_greatest_73 : decode cX11_greatest 73 = .ok (.invokevirtual 76, 3) := by decide +kernel
theorem dX11_greatest_76 : decode cX11_greatest 76 = .ok (.ifCond .eq 14, 3) := by decide +kernel
theorem dX11_greatest_79 : decode cX11_greatest 79 = .ok (.aload_n 0, 1) := by decide +kernel
theorem dX11_greatest_80 : decode cX11_greatest 80 = .ok (.iconst 4, 1) := by decide +kernel
theorem dX11_greatest_81 : decode cX11_greatest 81 = .ok (.invokevirtual 76, 3) := by decide +kernel
theorem dX11_greatest_84 : decode cX11_greatest 84 = .ok (.ifCond .eq 6, 3) := by decide +kernel
theorem dX11_greatest_87 : decode cX11_greatest 87 = .ok (.ldc 153, 2) := by decide +kernel
theorem dX11_greatest_89 : decode cX11_greatest 89 = .ok (.ireturn, 1) := by decide +kernel
theorem dX11_greatest_90 : decode cX11_greatest 90 = .ok (.aload_n 0, 1) := by decide +kernel
theorem dX11_greatest_91 : decode cX11_greatest 91 = .ok (.iload 4, 2) := by decide +kernel
theorem dX11_greatest_93 : decode cX11_greatest 93 = .ok (.invokevirtual 173, 3) := by decide +kernel
theorem dX11_greatest_96 : decode cX11_greatest 96 = .ok (.aload_n 0, 1) := by decide +kernel
theorem dX11_greatest_97 : decode cX11_greatest 97 = .ok (.iload_n 1, 1) := by decide +kernel
theorem dX11_greatest_98 : decode cX11_greatest 98 = .ok (.iconst 0, 1) := by decide +kernel
theorem dX11_greatest_99 : decode cX11_greatest 99 = .ok (.invokevirtual 102, 3) := by decide +kernel
theorem dX11_greatest_102 : decode cX11_greatest 102 = .ok (.aload_n 0, 1) := by decide +kernel
theorem dX11_greatest_103 : decode cX11_greatest 103 = .ok (.aload_n 0, 1) := by decide +kernel
theorem dX11_greatest_104 : decode cX11_greatest 104 = .ok (.iconst 0, 1) := by decide +kernel
theorem dX11_greatest_105 : decode cX11_greatest 105 = .ok (.invokevirtual 83, 3) := by decide +kernel
theorem dX11_greatest_108 : decode cX11_greatest 108 = .ok (.l2i, 1) := by decide +kernel
theorem dX11_greatest_109 : decode cX11_greatest 109 = .ok (.invokevirtual 61, 3) := by decide +kernel
theorem dX11_greatest_112 : decode cX11_greatest 112 = .ok (.ireturn, 1) := by decide +kernel
theorem dX11_associate_0 : decode cX11_associate 0 = .ok (.iload_n 1, 1) := by decide +kernel
theorem dX11_associate_1 : decode cX11_associate 1 = .ok (.invokestatic 92, 3) := by decide +kernel
theorem dX11_associate_4 : decode cX11_associate 4 = .ok (.ifCond .eq 20, 3) := by decide +kernel
theorem dX11_associate_7 : decode cX11_associate 7 = .ok (.iload_n 2, 1) := by decide +kernel
theorem dX11_associate_8 : decode cX11_associate 8 = .ok (.invokestatic 92, 3) := by decide +kernel
theorem dX11_associate_11 : decode cX11_associate 11 = .ok (.ifCond .eq 13, 3) := by decide +kernel
theorem dX11_associate_14 : decode cX11_associate 14 = .ok (.iload_n 3, 1) := by decide +kernel
theorem dX11_associate_15 : decode cX11_associate 15 = .ok (.i2l, 1) := by decide +kernel
theorem dX11_associate_16 : decode cX11_associate 16 = .ok (.lconst 0, 1) := by decide +kernel
theorem dX11_associate_17 : decode cX11_associate 17 = .ok (.lconst 1, 1) := by decide +kernel
theorem dX11_associate_18 : decode cX11_associate 18 = .ok (.invokestatic 46, 3) := by decide +kernel
theorem dX11_associate_21 : decode cX11_associate 21 = .ok (.ifCond .ne 6, 3) := by decide +kernel
theorem dX11_associate_24 : decode cX11_associate 24 = .ok (.ldc 56, 2) := by decide +kernel
theorem dX11_associate_26 : decode cX11_associate 26 = .ok (.ireturn, 1) := by decide +kernel
theorem dX11_associate_27 : decode cX11_associate 27 = .ok (.aload_n 0, 1) := by decide +kernel
theorem dX11_associate_28 : decode cX11_associate 28 = .ok (.getfield 7, 3) := by decide +kernel
theorem dX11_associate_31 : decode cX11_associate 31 = .ok (.iload_n 2, 1) := by decide +kernel
theorem dX11_associate_32 : decode cX11_associate 32 = .ok (.baload, 1) := by decide +kernel
theorem dX11_associate_33 : decode cX11_associate 33 = .ok (.ifCond .ne 9, 3) := by decide +kernel
theorem dX11_associate_36 : decode cX11_associate 36 = .ok (.aload_n 0, 1) := by decide +kernel
theorem dX11_associate_37 : decode cX11_associate 37 = .ok (.iconst 1, 1) := by decide +kernel
theorem dX11_associate_38 : decode cX11_associate 38 = .ok (.invokevirtual 57, 3) := by decide +kernel
theorem dX11_associate_41 : decode cX11_associate 41 = .ok (.ireturn, 1) := by decide +kernel
theorem dX11_associate_42 : decode cX11_associate 42 = .ok (.aload_n 0, 1) := by decide +kernel
theorem dX11_associate_43 : decode cX11_associate 43 = .ok (.iconst 0, 1) := by decide +kernel
theorem dX11_associate_44 : decode cX11_associate 44 = .ok (.iload_n 2, 1) := by decide +kernel
theorem dX11_associate_45 : decode cX11_associate 45 = .ok (.invokevirtual 111, 3) := by decide +kernel
theorem dX11_associate_48 : decode cX11_associate 48 = .ok (.aload_n 0, 1) := by decide +kernel
theorem dX11_associate_49 : decode cX11_associate 49 = .ok (.iload_n 3, 1) := by decide +kernel
theorem dX11_associate_50 : decode cX11_associate 50 = .ok (.invokevirtual 170, 3) := by decide +kernel
theorem dX11_associate_53 : decode cX11_associate 53 = .ok (.aload_n 0, 1) := by decide +kernel
theorem dX11_associate_54 : decode cX11_associate 54 = .ok (.iload_n 1, 1) := by decide +kernel
theorem dX11_associate_55 : decode cX11_associate 55 = .ok (.iconst 0, 1) := by decide +kernel
theorem dX11_associate_56 : decode cX11_associate 56 = .ok (.invokevirtual 143, 3) := by decide +kernel
theorem dX11_associate_59 : decode cX11_associate 59 = .ok (.ireturn, 1) := by decide +kernel
theorem dX11_plain_0 : decode cX11_plain 0 = .ok (.iload_n 1, 1) := by decide +kernel
theorem dX11_plain_1 : decode cX11_plain 1 = .ok (.invokestatic 92, 3) := by decide +kernel
theorem dX11_plain_4 : decode cX11_plain 4 = .ok (.ifCond .eq 10, 3) := by decide +kernel
theorem dX11_plain_7 : decode cX11_plain 7 = .ok (.iload_n 2, 1) := by decide +kernel
theorem dX11_plain_8 : decode cX11_plain 8 = .ok (.invokestatic 92, 3) := by decide +kernel
theorem dX11_plain_11 : decode cX11_plain 11 = .ok (.ifCond .ne 6, 3) := by decide +kernel
theorem dX11_plain_14 : decode cX11_plain 14 = .ok (.ldc 56, 2) := by decide +kernel
theorem dX11_plain_16 : decode cX11_plain 16 = .ok (.ireturn, 1) := by decide +kernel
theorem dX11_plain_17 : decode cX11_plain 17 = .ok (.aload_n 0, 1) := by decide +kernel
theorem dX11_plain_18 : decode cX11_plain 18 = .ok (.getfield 7, 3) := by decide +kernel
theorem dX11_plain_21 : decode cX11_plain 21 = .ok (.iload_n 2, 1) := by decide +kernel
theorem dX11_plain_22 : decode cX11_plain 22 = .ok (.baload, 1) := by decide +kernel
theorem dX11_plain_23 : decode cX11_plain 23 = .ok (.ifCond .ne 9, 3) := by decide +kernel
theorem dX11_plain_26 : decode cX11_plain 26 = .ok (.aload_n 0, 1) := by decide +kernel
theorem dX11_plain_27 : decode cX11_plain 27 = .ok (.iconst 1, 1) := by decide +kernel
theorem dX11_plain_28 : decode cX11_plain 28 = .ok (.invokevirtual 57, 3) := by decide +kernel
theorem dX11_plain_31 : decode cX11_plain 31 = .ok (.ireturn, 1) := by decide +kernel
theorem dX11_plain_32 : decode cX11_plain 32 = .ok (.aload_n 0, 1) := by decide +kernel
theorem dX11_plain_33 : decode cX11_plain 33 = .ok (.iconst 0, 1) := by decide +kernel
theorem dX11_plain_34 : decode cX11_plain 34 = .ok (.iload_n 2, 1) := by decide +kernel
theorem dX11_plain_35 : decode cX11_plain 35 = .ok (.invokevirtual 111, 3) := by decide +kernel
theorem dX11_plain_38 : decode cX11_plain 38 = .ok (.aload_n 0, 1) := by decide +kernel
theorem dX11_plain_39 : decode cX11_plain 39 = .ok (.iconst 0, 1) := by decide +kernel
theorem dX11_plain_40 : decode cX11_plain 40 = .ok (.invokevirtual 76, 3) := by decide +kernel
theorem dX11_plain_43 : decode cX11_plain 43 = .ok (.ifCond .eq 6, 3) := by decide +kernel
theorem dX11_plain_46 : decode cX11_plain 46 = .ok (.ldc 153, 2) := by decide +kernel
theorem dX11_plain_48 : decode cX11_plain 48 = .ok (.ireturn, 1) := by decide +kernel
theorem dX11_plain_49 : decode cX11_plain 49 = .ok (.aload_n 0, 1) := by decide +kernel
theorem dX11_plain_50 : decode cX11_plain 50 = .ok (.iconst 0, 1) := by decide +kernel
theorem dX11_plain_51 : decode cX11_plain 51 = .ok (.invokevirtual 79, 3) := by decide +kernel
theorem dX11_plain_54 : decode cX11_plain 54 = .ok (.lstore_n 3, 1) := by decide +kernel
theorem dX11_plain_55 : decode cX11_plain 55 = .ok (.aload_n 0, 1) := by decide +kernel
theorem dX11_plain_56 : decode cX11_plain 56 = .ok (.iconst 0, 1) := by decide +kernel
theorem dX11_plain_57 : decode cX11_plain 57 = .ok (.aload_n 0, 1) := by decide +kernel
theorem dX11_plain_58 : decode cX11_plain 58 = .ok (.getfield 33, 3) := by decide +kernel
theorem dX11_plain_61 : decode cX11_plain 61 = .ok (.iconst 0, 1) := by decide +kernel
theorem dX11_plain_62 : decode cX11_plain 62 = .ok (.laload, 1) := by decide +kernel
theorem dX11_plain_63 : decode cX11_plain 63 = .ok (.lload_n 3, 1) := by decide +kernel
theorem dX11_plain_64 : decode cX11_plain 64 = .ok (.ldiv, 1) := by decide +kernel
theorem dX11_plain_65 : decode cX11_plain 65 = .ok (.aload_n 0, 1) := by decide +kernel
theorem dX11_plain_66 : decode cX11_plain 66 = .ok (.getfield 33, 3) := by decide +kernel
theorem dX11_plain_69 : decode cX11_plain 69 = .ok (.iconst 1, 1) := by decide +kernel
theorem dX11_plain_70 : decode cX11_plain 70 = .ok (.laload, 1) := by decide +kernel
theorem dX11_plain_71 : decode cX11_plain 71 = .ok (.lload_n 3, 1) := by decide +kernel
theorem dX11_plain_72 : decode cX11_plain 72 = .ok (.ldiv, 1) := by decide +kernel
theorem dX11_plain_73 : decode cX11_plain 73 = .ok (.aload_n 0, 1) := by decide +kernel
theorem dX11_plain_74 : decode cX11_plain 74 = .ok (.getfield 33, 3) := by decide +kernel
theorem dX11_plain_77 : decode cX11_plain 77 = .ok (.iconst 2, 1) := by decide +kernel
theorem dX11_plain_78 : decode cX11_plain 78 = .ok (.laload, 1) := by decide +kernel
theorem dX11_plain_79 : decode cX11_plain 79 = .ok (.lload_n 3, 1) := by decide +kernel
theorem dX11_plain_80 : decode cX11_plain 80 = .ok (.ldiv, 1) := by decide +kernel
theorem dX11_plain_81 : decode cX11_plain 81 = .ok (.aload_n 0, 1) := by decide +kernel
theorem dX11_plain_82 : decode cX11_plain 82 = .ok (.getfield 33, 3) := by decide +kernel
theorem dX11_plain_85 : decode cX11_plain 85 = .ok (.iconst 3, 1) := by decide +kernel
theorem dX11_plain_86 : decode cX11_plain 86 = .ok (.laload, 1) := by decide +kernel
theorem dX11_plain_87 : decode cX11_plain 87 = .ok (.lload_n 3, 1) := by decide +kernel
theorem dX11_plain_88 : decode cX11_plain 88 = .ok (.ldiv, 1) := by decide +kernel
theorem dX11_plain_89 : decode cX11_plain 89 = .ok (.invokevirtual 68, 3) := by decide +kernel
theorem dX11_plain_92 : decode cX11_plain 92 = .ok (.aload_n 0, 1) := by decide +kernel
theorem dX11_plain_93 : decode cX11_plain 93 = .ok (.iload_n 1, 1) := by decide +kernel
theorem dX11_plain_94 : decode cX11_plain 94 = .ok (.iconst 0, 1) := by decide +kernel
theorem dX11_plain_95 : decode cX11_plain 95 = .ok (.invokevirtual 102, 3) := by decide +kernel
theorem dX11_plain_98 : decode cX11_plain 98 = .ok (.aload_n 0, 1) := by decide +kernel
theorem dX11_plain_99 : decode cX11_plain 99 = .ok (.lload_n 3, 1) := by decide +kernel
theorem dX11_plain_100 : decode cX11_plain 100 = .ok (.l2i, 1) := by decide +kernel
theorem dX11_plain_101 : decode cX11_plain 101 = .ok (.invokevirtual 61, 3) := by decide +kernel
theorem dX11_plain_104 : decode cX11_plain 104 = .ok (.ireturn, 1) := by decide +kernel
theorem dX11_leastPrime_0 : decode cX11_leastPrime 0 = .ok (.ldc2_w 54, 3) := by decide +kernel
theorem dX11_leastPrime_3 : decode cX11_leastPrime 3 = .ok (.lstore_n 2, 1) := by decide +kernel
theorem dX11_leastPrime_4 : decode cX11_leastPrime 4 = .ok (.lload_n 2, 1) := by decide +kernel
theorem dX11_leastPrime_5 : decode cX11_leastPrime 5 = .ok (.lload_n 2, 1) := by decide +kernel
theorem dX11_leastPrime_6 : decode cX11_leastPrime 6 = .ok (.lmul, 1) := by decide +kernel
theorem dX11_leastPrime_7 : decode cX11_leastPrime 7 = .ok (.lload_n 0, 1) := by decide +kernel
theorem dX11_leastPrime_8 : decode cX11_leastPrime 8 = .ok (.lcmp, 1) := by decide +kernel
theorem dX11_leastPrime_9 : decode cX11_leastPrime 9 = .ok (.ifCond .gt 20, 3) := by decide +kernel
theorem dX11_leastPrime_12 : decode cX11_leastPrime 12 = .ok (.lload_n 0, 1) := by decide +kernel
theorem dX11_leastPrime_13 : decode cX11_leastPrime 13 = .ok (.lload_n 2, 1) := by decide +kernel
theorem dX11_leastPrime_14 : decode cX11_leastPrime 14 = .ok (.lrem, 1) := by decide +kernel
theorem dX11_leastPrime_15 : decode cX11_leastPrime 15 = .ok (.lconst 0, 1) := by decide +kernel
theorem dX11_leastPrime_16 : decode cX11_leastPrime 16 = .ok (.lcmp, 1) := by decide +kernel
theorem dX11_leastPrime_17 : decode cX11_leastPrime 17 = .ok (.ifCond .ne 5, 3) := by decide +kernel
theorem dX11_leastPrime_20 : decode cX11_leastPrime 20 = .ok (.lload_n 2, 1) := by decide +kernel
theorem dX11_leastPrime_21 : decode cX11_leastPrime 21 = .ok (.lreturn, 1) := by decide +kernel
theorem dX11_leastPrime_22 : decode cX11_leastPrime 22 = .ok (.lload_n 2, 1) := by decide +kernel
theorem dX11_leastPrime_23 : decode cX11_leastPrime 23 = .ok (.lconst 1, 1) := by decide +kernel
theorem dX11_leastPrime_24 : decode cX11_leastPrime 24 = .ok (.ladd, 1) := by decide +kernel
theorem dX11_leastPrime_25 : decode cX11_leastPrime 25 = .ok (.lstore_n 2, 1) := by decide +kernel
theorem dX11_leastPrime_26 : decode cX11_leastPrime 26 = .ok (.goto (-22), 3) := by decide +kernel
theorem dX11_leastPrime_29 : decode cX11_leastPrime 29 = .ok (.lload_n 0, 1) := by decide +kernel
theorem dX11_leastPrime_30 : decode cX11_leastPrime 30 = .ok (.lreturn, 1) := by decide +kernel
theorem dX11_part_0 : decode cX11_part 0 = .ok (.iload_n 1, 1) := by decide +kernel
theorem dX11_part_1 : decode cX11_part 1 = .ok (.invokestatic 92, 3) := by decide +kernel
theorem dX11_part_4 : decode cX11_part 4 = .ok (.ifCond .eq 10, 3) := by decide +kernel
theorem dX11_part_7 : decode cX11_part 7 = .ok (.iload_n 2, 1) := by decide +kernel
theorem dX11_part_8 : decode cX11_part 8 = .ok (.invokestatic 92, 3) := by decide +kernel
theorem dX11_part_11 : decode cX11_part 11 = .ok (.ifCond .ne 6, 3) := by decide +kernel
theorem dX11_part_14 : decode cX11_part 14 = .ok (.ldc 56, 2) := by decide +kernel
theorem dX11_part_16 : decode cX11_part 16 = .ok (.ireturn, 1) := by decide +kernel
theorem dX11_part_17 : decode cX11_part 17 = .ok (.aload_n 0, 1) := by decide +kernel
theorem dX11_part_18 : decode cX11_part 18 = .ok (.getfield 7, 3) := by decide +kernel
theorem dX11_part_21 : decode cX11_part 21 = .ok (.iload_n 2, 1) := by decide +kernel
theorem dX11_part_22 : decode cX11_part 22 = .ok (.baload, 1) := by decide +kernel
theorem dX11_part_23 : decode cX11_part 23 = .ok (.ifCond .ne 9, 3) := by decide +kernel
theorem dX11_part_26 : decode cX11_part 26 = .ok (.aload_n 0, 1) := by decide +kernel
theorem dX11_part_27 : decode cX11_part 27 = .ok (.iconst 1, 1) := by decide +kernel
theorem dX11_part_28 : decode cX11_part 28 = .ok (.invokevirtual 57, 3) := by decide +kernel
theorem dX11_part_31 : decode cX11_part 31 = .ok (.ireturn, 1) := by decide +kernel
theorem dX11_part_32 : decode cX11_part 32 = .ok (.aload_n 0, 1) := by decide +kernel
theorem dX11_part_33 : decode cX11_part 33 = .ok (.iconst 0, 1) := by decide +kernel
theorem dX11_part_34 : decode cX11_part 34 = .ok (.iload_n 2, 1) := by decide +kernel
theorem dX11_part_35 : decode cX11_part 35 = .ok (.invokevirtual 111, 3) := by decide +kernel
theorem dX11_part_38 : decode cX11_part 38 = .ok (.aload_n 0, 1) := by decide +kernel
theorem dX11_part_39 : decode cX11_part 39 = .ok (.iconst 0, 1) := by decide +kernel
theorem dX11_part_40 : decode cX11_part 40 = .ok (.invokevirtual 106, 3) := by decide +kernel
theorem dX11_part_43 : decode cX11_part 43 = .ok (.istore 4, 2) := by decide +kernel
theorem dX11_part_45 : decode cX11_part 45 = .ok (.iload 4, 2) := by decide +kernel
theorem dX11_part_47 : decode cX11_part 47 = .ok (.iconst 2, 1) := by decide +kernel
theorem dX11_part_48 : decode cX11_part 48 = .ok (.if_icmp .lt 9, 3) := by decide +kernel
theorem dX11_part_51 : decode cX11_part 51 = .ok (.iload 4, 2) := by decide +kernel
theorem dX11_part_53 : decode cX11_part 53 = .ok (.iconst 4, 1) := by decide +kernel
theorem dX11_part_54 : decode cX11_part 54 = .ok (.if_icmp .ne 6, 3) := by decide +kernel
theorem dX11_part_57 : decode cX11_part 57 = .ok (.ldc 153, 2) := by decide +kernel
theorem dX11_part_59 : decode cX11_part 59 = .ok (.ireturn, 1) := by decide +kernel
theorem dX11_part_60 : decode cX11_part 60 = .ok (.aload_n 0, 1) := by decide +kernel
theorem dX11_part_61 : decode cX11_part 61 = .ok (.bipush 28, 2) := by decide +kernel
theorem dX11_part_63 : decode cX11_part 63 = .ok (.iconst 0, 1) := by decide +kernel
theorem dX11_part_64 : decode cX11_part 64 = .ok (.invokevirtual 167, 3) := by decide +kernel
theorem dX11_part_67 : decode cX11_part 67 = .ok (.aload_n 0, 1) := by decide +kernel
theorem dX11_part_68 : decode cX11_part 68 = .ok (.iconst 0, 1) := by decide +kernel
theorem dX11_part_69 : decode cX11_part 69 = .ok (.invokevirtual 83, 3) := by decide +kernel
theorem dX11_part_72 : decode cX11_part 72 = .ok (.lstore 5, 2) := by decide +kernel
theorem dX11_part_74 : decode cX11_part 74 = .ok (.iconst 0, 1) := by decide +kernel
theorem dX11_part_75 : decode cX11_part 75 = .ok (.istore 7, 2) := by decide +kernel
theorem dX11_part_77 : decode cX11_part 77 = .ok (.iconst 0, 1) := by decide +kernel
theorem dX11_part_78 : decode cX11_part 78 = .ok (.istore 8, 2) := by decide +kernel
theorem dX11_part_80 : decode cX11_part 80 = .ok (.lload 5, 2) := by decide +kernel
theorem dX11_part_82 : decode cX11_part 82 = .ok (.lconst 1, 1) := by decide +kernel
theorem dX11_part_83 : decode cX11_part 83 = .ok (.lcmp, 1) := by decide +kernel
theorem dX11_part_84 : decode cX11_part 84 = .ok (.ifCond .le 128, 3) := by decide +kernel
theorem dX11_part_87 : decode cX11_part 87 = .ok (.lload 5, 2) := by decide +kernel
theorem dX11_part_89 : decode cX11_part 89 = .ok (.invokestatic 176, 3) := by decide +kernel
theorem dX11_part_92 : decode cX11_part 92 = .ok (.lstore 9, 2) := by decide +kernel
theorem dX11_part_94 : decode cX11_part 94 = .ok (.aload_n 0, 1) := by decide +kernel
theorem dX11_part_95 : decode cX11_part 95 = .ok (.iconst 0, 1) := by decide +kernel
theorem dX11_part_96 : decode cX11_part 96 = .ok (.bipush 28, 2) := by decide +kernel
theorem dX11_part_98 : decode cX11_part 98 = .ok (.invokevirtual 167, 3) := by decide +kernel
theorem dX11_part_101 : decode cX11_part 101 = .ok (.aload_n 0, 1) := by decide +kernel
theorem dX11_part_102 : decode cX11_part 102 = .ok (.iconst 4, 1) := by decide +kernel
theorem dX11_part_103 : decode cX11_part 103 = .ok (.ldc2_w 54, 3) := by decide +kernel
theorem dX11_part_106 : decode cX11_part 106 = .ok (.lload 9, 2) := by decide +kernel
theorem dX11_part_108 : decode cX11_part 108 = .ok (.lmul, 1) := by decide +kernel
theorem dX11_part_109 : decode cX11_part 109 = .ok (.lconst 0, 1) := by decide +kernel
theorem dX11_part_110 : decode cX11_part 110 = .ok (.lconst 0, 1) := by decide +kernel
theorem dX11_part_111 : decode cX11_part 111 = .ok (.lconst 0, 1) := by decide +kernel
theorem dX11_part_112 : decode cX11_part 112 = .ok (.invokevirtual 68, 3) := by decide +kernel
theorem dX11_part_115 : decode cX11_part 115 = .ok (.aload_n 0, 1) := by decide +kernel
theorem dX11_part_116 : decode cX11_part 116 = .ok (.iconst 0, 1) := by decide +kernel
theorem dX11_part_117 : decode cX11_part 117 = .ok (.invokevirtual 173, 3) := by decide +kernel
theorem dX11_part_120 : decode cX11_part 120 = .ok (.iload 7, 2) := by decide +kernel
theorem dX11_part_122 : decode cX11_part 122 = .ok (.iload_n 3, 1) := by decide +kernel
theorem dX11_part_123 : decode cX11_part 123 = .ok (.if_icmp .ne 13, 3) := by decide +kernel
theorem dX11_part_126 : decode cX11_part 126 = .ok (.aload_n 0, 1) := by decide +kernel
theorem dX11_part_127 : decode cX11_part 127 = .ok (.bipush 32, 2) := by decide +kernel
theorem dX11_part_129 : decode cX11_part 129 = .ok (.iconst 0, 1) := by decide +kernel
theorem dX11_part_130 : decode cX11_part 130 = .ok (.invokevirtual 167, 3) := by decide +kernel
theorem dX11_part_133 : decode cX11_part 133 = .ok (.iconst 1, 1) := by decide +kernel
theorem dX11_part_134 : decode cX11_part 134 = .ok (.istore 8, 2) := by decide +kernel
theorem dX11_part_136 : decode cX11_part 136 = .ok (.aload_n 0, 1) := by decide +kernel
theorem dX11_part_137 : decode cX11_part 137 = .ok (.bipush 16, 2) := by decide +kernel
theorem dX11_part_139 : decode cX11_part 139 = .ok (.iconst 0, 1) := by decide +kernel
theorem dX11_part_140 : decode cX11_part 140 = .ok (.invokevirtual 147, 3) := by decide +kernel
theorem dX11_part_143 : decode cX11_part 143 = .ok (.aload_n 0, 1) := by decide +kernel
theorem dX11_part_144 : decode cX11_part 144 = .ok (.bipush 8, 2) := by decide +kernel
theorem dX11_part_146 : decode cX11_part 146 = .ok (.bipush 16, 2) := by decide +kernel
theorem dX11_part_148 : decode cX11_part 148 = .ok (.bipush 28, 2) := by decide +kernel
theorem dX11_part_150 : decode cX11_part 150 = .ok (.invokevirtual 139, 3) := by decide +kernel
theorem dX11_part_153 : decode cX11_part 153 = .ok (.aload_n 0, 1) := by decide +kernel
theorem dX11_part_154 : decode cX11_part 154 = .ok (.bipush 28, 2) := by decide +kernel
theorem dX11_part_156 : decode cX11_part 156 = .ok (.aload_n 0, 1) := by decide +kernel
theorem dX11_part_157 : decode cX11_part 157 = .ok (.getfield 33, 3) := by decide +kernel
theorem dX11_part_160 : decode cX11_part 160 = .ok (.bipush 8, 2) := by decide +kernel
theorem dX11_part_162 : decode cX11_part 162 = .ok (.laload, 1) := by decide +kernel
theorem dX11_part_163 : decode cX11_part 163 = .ok (.lload 9, 2) := by decide +kernel
theorem dX11_part_165 : decode cX11_part 165 = .ok (.ldiv, 1) := by decide +kernel
theorem dX11_part_166 : decode cX11_part 166 = .ok (.aload_n 0, 1) := by decide +kernel
theorem dX11_part_167 : decode cX11_part 167 = .ok (.getfield 33, 3) := by decide +kernel
theorem dX11_part_170 : decode cX11_part 170 = .ok (.bipush 9, 2) := by decide +kernel
theorem dX11_part_172 : decode cX11_part 172 = .ok (.laload, 1) := by decide +kernel
theorem dX11_part_173 : decode cX11_part 173 = .ok (.lload 9, 2) := by decide +kernel
theorem dX11_part_175 : decode cX11_part 175 = .ok (.ldiv, 1) := by decide +kernel
theorem dX11_part_176 : decode cX11_part 176 = .ok (.aload_n 0, 1) := by decide +kernel
theorem dX11_part_177 : decode cX11_part 177 = .ok (.getfield 33, 3) := by decide +kernel
theorem dX11_part_180 : decode cX11_part 180 = .ok (.bipush 10, 2) := by decide +kernel
theorem dX11_part_182 : decode cX11_part 182 = .ok (.laload, 1) := by decide +kernel
theorem dX11_part_183 : decode cX11_part 183 = .ok (.lload 9, 2) := by decide +kernel
theorem dX11_part_185 : decode cX11_part 185 = .ok (.ldiv, 1) := by decide +kernel
theorem dX11_part_186 : decode cX11_part 186 = .ok (.aload_n 0, 1) := by decide +kernel
theorem dX11_part_187 : decode cX11_part 187 = .ok (.getfield 33, 3) := by decide +kernel
theorem dX11_part_190 : decode cX11_part 190 = .ok (.bipush 11, 2) := by decide +kernel
theorem dX11_part_192 : decode cX11_part 192 = .ok (.laload, 1) := by decide +kernel
theorem dX11_part_193 : decode cX11_part 193 = .ok (.lload 9, 2) := by decide +kernel
theorem dX11_part_195 : decode cX11_part 195 = .ok (.ldiv, 1) := by decide +kernel
theorem dX11_part_196 : decode cX11_part 196 = .ok (.invokevirtual 68, 3) := by decide +kernel
theorem dX11_part_199 : decode cX11_part 199 = .ok (.lload 5, 2) := by decide +kernel
theorem dX11_part_201 : decode cX11_part 201 = .ok (.lload 9, 2) := by decide +kernel
theorem dX11_part_203 : decode cX11_part 203 = .ok (.ldiv, 1) := by decide +kernel
theorem dX11_part_204 : decode cX11_part 204 = .ok (.lstore 5, 2) := by decide +kernel
theorem dX11_part_206 : decode cX11_part 206 = .ok (.iinc 7 1, 3) := by decide +kernel
theorem dX11_part_209 : decode cX11_part 209 = .ok (.goto (-129), 3) := by decide +kernel
theorem dX11_part_212 : decode cX11_part 212 = .ok (.iload 7, 2) := by decide +kernel
theorem dX11_part_214 : decode cX11_part 214 = .ok (.iload_n 3, 1) := by decide +kernel
theorem dX11_part_215 : decode cX11_part 215 = .ok (.if_icmp .ne 14, 3) := by decide +kernel
theorem dX11_part_218 : decode cX11_part 218 = .ok (.aload_n 0, 1) := by decide +kernel
theorem dX11_part_219 : decode cX11_part 219 = .ok (.bipush 32, 2) := by decide +kernel
theorem dX11_part_221 : decode cX11_part 221 = .ok (.bipush 28, 2) := by decide +kernel
theorem dX11_part_223 : decode cX11_part 223 = .ok (.invokevirtual 167, 3) := by decide +kernel
theorem dX11_part_226 : decode cX11_part 226 = .ok (.iconst 1, 1) := by decide +kernel
theorem dX11_part_227 : decode cX11_part 227 = .ok (.istore 8, 2) := by decide +kernel
theorem dX11_part_229 : decode cX11_part 229 = .ok (.iinc 7 1, 3) := by decide +kernel
theorem dX11_part_232 : decode cX11_part 232 = .ok (.iload 8, 2) := by decide +kernel
theorem dX11_part_234 : decode cX11_part 234 = .ok (.ifCond .ne 10, 3) := by decide +kernel
theorem dX11_part_237 : decode cX11_part 237 = .ok (.aload_n 0, 1) := by decide +kernel
theorem dX11_part_238 : decode cX11_part 238 = .ok (.ldc 138, 2) := by decide +kernel
theorem dX11_part_240 : decode cX11_part 240 = .ok (.invokevirtual 61, 3) := by decide +kernel
theorem dX11_part_243 : decode cX11_part 243 = .ok (.ireturn, 1) := by decide +kernel
theorem dX11_part_244 : decode cX11_part 244 = .ok (.aload_n 0, 1) := by decide +kernel
theorem dX11_part_245 : decode cX11_part 245 = .ok (.iload_n 1, 1) := by decide +kernel
theorem dX11_part_246 : decode cX11_part 246 = .ok (.bipush 32, 2) := by decide +kernel
theorem dX11_part_248 : decode cX11_part 248 = .ok (.invokevirtual 102, 3) := by decide +kernel
theorem dX11_part_251 : decode cX11_part 251 = .ok (.aload_n 0, 1) := by decide +kernel
theorem dX11_part_252 : decode cX11_part 252 = .ok (.iload 7, 2) := by decide +kernel
theorem dX11_part_254 : decode cX11_part 254 = .ok (.invokevirtual 61, 3) := by decide +kernel
theorem dX11_part_257 : decode cX11_part 257 = .ok (.ireturn, 1) := by decide +kernel
theorem dX11_many_0 : decode cX11_many 0 = .ok (.iload_n 1, 1) := by decide +kernel
theorem dX11_many_1 : decode cX11_many 1 = .ok (.i2l, 1) := by decide +kernel
theorem dX11_many_2 : decode cX11_many 2 = .ok (.lconst 1, 1) := by decide +kernel
theorem dX11_many_3 : decode cX11_many 3 = .ok (.ldc2_w 180, 3) := by decide +kernel
theorem dX11_many_6 : decode cX11_many 6 = .ok (.invokestatic 46, 3) := by decide +kernel
theorem dX11_many_9 : decode cX11_many 9 = .ok (.ifCond .ne 6, 3) := by decide +kernel
theorem dX11_many_12 : decode cX11_many 12 = .ok (.ldc 56, 2) := by decide +kernel
theorem dX11_many_14 : decode cX11_many 14 = .ok (.ireturn, 1) := by decide +kernel
theorem dX11_many_15 : decode cX11_many 15 = .ok (.iconst 0, 1) := by decide +kernel
theorem dX11_many_16 : decode cX11_many 16 = .ok (.istore_n 2, 1) := by decide +kernel
theorem dX11_many_17 : decode cX11_many 17 = .ok (.iconst 1, 1) := by decide +kernel
theorem dX11_many_18 : decode cX11_many 18 = .ok (.istore_n 3, 1) := by decide +kernel
theorem dX11_many_19 : decode cX11_many 19 = .ok (.iload_n 3, 1) := by decide +kernel
theorem dX11_many_20 : decode cX11_many 20 = .ok (.iload_n 1, 1) := by decide +kernel
theorem dX11_many_21 : decode cX11_many 21 = .ok (.if_icmp .gt 23, 3) := by decide +kernel
theorem dX11_many_24 : decode cX11_many 24 = .ok (.iload_n 2, 1) := by decide +kernel
theorem dX11_many_25 : decode cX11_many 25 = .ok (.iload_n 1, 1) := by decide +kernel
theorem dX11_many_26 : decode cX11_many 26 = .ok (.iload_n 3, 1) := by decide +kernel
theorem dX11_many_27 : decode cX11_many 27 = .ok (.irem, 1) := by decide +kernel
theorem dX11_many_28 : decode cX11_many 28 = .ok (.ifCond .ne 7, 3) := by decide +kernel
theorem dX11_many_31 : decode cX11_many 31 = .ok (.iload_n 3, 1) := by decide +kernel
theorem dX11_many_32 : decode cX11_many 32 = .ok (.goto 4, 3) := by decide +kernel
theorem dX11_many_35 : decode cX11_many 35 = .ok (.iconst 0, 1) := by decide +kernel
theorem dX11_many_36 : decode cX11_many 36 = .ok (.iadd, 1) := by decide +kernel
theorem dX11_many_37 : decode cX11_many 37 = .ok (.istore_n 2, 1) := by decide +kernel
theorem dX11_many_38 : decode cX11_many 38 = .ok (.iinc 3 2, 3) := by decide +kernel
theorem dX11_many_41 : decode cX11_many 41 = .ok (.goto (-22), 3) := by decide +kernel
theorem dX11_many_44 : decode cX11_many 44 = .ok (.bipush 24, 2) := by decide +kernel
theorem dX11_many_46 : decode cX11_many 46 = .ok (.iload_n 2, 1) := by decide +kernel
theorem dX11_many_47 : decode cX11_many 47 = .ok (.imul, 1) := by decide +kernel
theorem dX11_many_48 : decode cX11_many 48 = .ok (.ireturn, 1) := by decide +kernel
theorem dX11_root_0 : decode cX11_root 0 = .ok (.lconst 0, 1) := by decide +kernel
theorem dX11_root_1 : decode cX11_root 1 = .ok (.lstore_n 2, 1) := by decide +kernel
theorem dX11_root_2 : decode cX11_root 2 = .ok (.lload_n 2, 1) := by decide +kernel
theorem dX11_root_3 : decode cX11_root 3 = .ok (.lconst 1, 1) := by decide +kernel
theorem dX11_root_4 : decode cX11_root 4 = .ok (.ladd, 1) := by decide +kernel
theorem dX11_root_5 : decode cX11_root 5 = .ok (.lload_n 2, 1) := by decide +kernel
theorem dX11_root_6 : decode cX11_root 6 = .ok (.lconst 1, 1) := by decide +kernel
theorem dX11_root_7 : decode cX11_root 7 = .ok (.ladd, 1) := by decide +kernel
theorem dX11_root_8 : decode cX11_root 8 = .ok (.lmul, 1) := by decide +kernel
theorem dX11_root_9 : decode cX11_root 9 = .ok (.lload_n 0, 1) := by decide +kernel
theorem dX11_root_10 : decode cX11_root 10 = .ok (.lcmp, 1) := by decide +kernel
theorem dX11_root_11 : decode cX11_root 11 = .ok (.ifCond .gt 10, 3) := by decide +kernel
theorem dX11_root_14 : decode cX11_root 14 = .ok (.lload_n 2, 1) := by decide +kernel
theorem dX11_root_15 : decode cX11_root 15 = .ok (.lconst 1, 1) := by decide +kernel
theorem dX11_root_16 : decode cX11_root 16 = .ok (.ladd, 1) := by decide +kernel
theorem dX11_root_17 : decode cX11_root 17 = .ok (.lstore_n 2, 1) := by decide +kernel
theorem dX11_root_18 : decode cX11_root 18 = .ok (.goto (-16), 3) := by decide +kernel
theorem dX11_root_21 : decode cX11_root 21 = .ok (.lload_n 2, 1) := by decide +kernel
theorem dX11_root_22 : decode cX11_root 22 = .ok (.lreturn, 1) := by decide +kernel
theorem dX11_list_0 : decode cX11_list 0 = .ok (.iload_n 1, 1) := by decide +kernel
theorem dX11_list_1 : decode cX11_list 1 = .ok (.invokestatic 92, 3) := by decide +kernel
theorem dX11_list_4 : decode cX11_list 4 = .ok (.ifCond .eq 15, 3) := by decide +kernel
theorem dX11_list_7 : decode cX11_list 7 = .ok (.iload_n 2, 1) := by decide +kernel
theorem dX11_list_8 : decode cX11_list 8 = .ok (.i2l, 1) := by decide +kernel
theorem dX11_list_9 : decode cX11_list 9 = .ok (.lconst 1, 1) := by decide +kernel
theorem dX11_list_10 : decode cX11_list 10 = .ok (.ldc2_w 182, 3) := by decide +kernel
theorem dX11_list_13 : decode cX11_list 13 = .ok (.invokestatic 46, 3) := by decide +kernel
theorem dX11_list_16 : decode cX11_list 16 = .ok (.ifCond .ne 6, 3) := by decide +kernel
theorem dX11_list_19 : decode cX11_list 19 = .ok (.ldc 56, 2) := by decide +kernel
theorem dX11_list_21 : decode cX11_list 21 = .ok (.ireturn, 1) := by decide +kernel
theorem dX11_list_22 : decode cX11_list 22 = .ok (.ldc2_w 66, 3) := by decide +kernel
theorem dX11_list_25 : decode cX11_list 25 = .ok (.iload_n 2, 1) := by decide +kernel
theorem dX11_list_26 : decode cX11_list 26 = .ok (.i2l, 1) := by decide +kernel
theorem dX11_list_27 : decode cX11_list 27 = .ok (.lmul, 1) := by decide +kernel
theorem dX11_list_28 : decode cX11_list 28 = .ok (.lstore 4, 2) := by decide +kernel
theorem dX11_list_30 : decode cX11_list 30 = .ok (.lload 4, 2) := by decide +kernel
theorem dX11_list_32 : decode cX11_list 32 = .ok (.invokestatic 184, 3) := by decide +kernel
theorem dX11_list_35 : decode cX11_list 35 = .ok (.lstore 6, 2) := by decide +kernel
theorem dX11_list_37 : decode cX11_list 37 = .ok (.iload_n 3, 1) := by decide +kernel
theorem dX11_list_38 : decode cX11_list 38 = .ok (.istore 8, 2) := by decide +kernel
theorem dX11_list_40 : decode cX11_list 40 = .ok (.lload 6, 2) := by decide +kernel
theorem dX11_list_42 : decode cX11_list 42 = .ok (.lneg, 1) := by decide +kernel
theorem dX11_list_43 : decode cX11_list 43 = .ok (.lstore 9, 2) := by decide +kernel
theorem dX11_list_45 : decode cX11_list 45 = .ok (.lload 9, 2) := by decide +kernel
theorem dX11_list_47 : decode cX11_list 47 = .ok (.lload 6, 2) := by decide +kernel
theorem dX11_list_49 : decode cX11_list 49 = .ok (.lcmp, 1) := by decide +kernel
theorem dX11_list_50 : decode cX11_list 50 = .ok (.ifCond .gt 240, 3) := by decide +kernel
theorem dX11_list_53 : decode cX11_list 53 = .ok (.iload 8, 2) := by decide +kernel
theorem dX11_list_55 : decode cX11_list 55 = .ok (.ifCond .lt 235, 3) := by decide +kernel
theorem dX11_list_58 : decode cX11_list 58 = .ok (.lload 6, 2) := by decide +kernel
theorem dX11_list_60 : decode cX11_list 60 = .ok (.lneg, 1) := by decide +kernel
theorem dX11_list_61 : decode cX11_list 61 = .ok (.lstore 11, 2) := by decide +kernel
theorem dX11_list_63 : decode cX11_list 63 = .ok (.lload 11, 2) := by decide +kernel
theorem dX11_list_65 : decode cX11_list 65 = .ok (.lload 6, 2) := by decide +kernel
theorem dX11_list_67 : decode cX11_list 67 = .ok (.lcmp, 1) := by decide +kernel
theorem dX11_list_68 : decode cX11_list 68 = .ok (.ifCond .gt 213, 3) := by decide +kernel
theorem dX11_list_71 : decode cX11_list 71 = .ok (.lload 6, 2) := by decide +kernel
theorem dX11_list_73 : decode cX11_list 73 = .ok (.lneg, 1) := by decide +kernel
theorem dX11_list_74 : decode cX11_list 74 = .ok (.lstore 13, 2) := by decide +kernel
theorem dX11_list_76 : decode cX11_list 76 = .ok (.lload 13, 2) := by decide +kernel
theorem dX11_list_78 : decode cX11_list 78 = .ok (.lload 6, 2) := by decide +kernel
theorem dX11_list_80 : decode cX11_list 80 = .ok (.lcmp, 1) := by decide +kernel
theorem dX11_list_81 : decode cX11_list 81 = .ok (.ifCond .gt 191, 3) := by decide +kernel
theorem dX11_list_84 : decode cX11_list 84 = .ok (.lload 4, 2) := by decide +kernel
theorem dX11_list_86 : decode cX11_list 86 = .ok (.lload 9, 2) := by decide +kernel
theorem dX11_list_88 : decode cX11_list 88 = .ok (.lload 9, 2) := by decide +kernel
theorem dX11_list_90 : decode cX11_list 90 = .ok (.lmul, 1) := by decide +kernel
theorem dX11_list_91 : decode cX11_list 91 = .ok (.lsub, 1) := by decide +kernel
theorem dX11_list_92 : decode cX11_list 92 = .ok (.lload 11, 2) := by decide +kernel
theorem dX11_list_94 : decode cX11_list 94 = .ok (.lload 11, 2) := by decide +kernel
theorem dX11_list_96 : decode cX11_list 96 = .ok (.lmul, 1) := by decide +kernel
theorem dX11_list_97 : decode cX11_list 97 = .ok (.lsub, 1) := by decide +kernel
theorem dX11_list_98 : decode cX11_list 98 = .ok (.lload 13, 2) := by decide +kernel
theorem dX11_list_100 : decode cX11_list 100 = .ok (.lload 13, 2) := by decide +kernel
theorem dX11_list_102 : decode cX11_list 102 = .ok (.lmul, 1) := by decide +kernel
theorem dX11_list_103 : decode cX11_list 103 = .ok (.lsub, 1) := by decide +kernel
theorem dX11_list_104 : decode cX11_list 104 = .ok (.lstore 15, 2) := by decide +kernel
theorem dX11_list_106 : decode cX11_list 106 = .ok (.lload 9, 2) := by decide +kernel
theorem dX11_list_108 : decode cX11_list 108 = .ok (.lconst 1, 1) := by decide +kernel
theorem dX11_list_109 : decode cX11_list 109 = .ok (.land, 1) := by decide +kernel
theorem dX11_list_110 : decode cX11_list 110 = .ok (.lload 11, 2) := by decide +kernel
theorem dX11_list_112 : decode cX11_list 112 = .ok (.lconst 1, 1) := by decide +kernel
theorem dX11_list_113 : decode cX11_list 113 = .ok (.land, 1) := by decide +kernel
theorem dX11_list_114 : decode cX11_list 114 = .ok (.lcmp, 1) := by decide +kernel
theorem dX11_list_115 : decode cX11_list 115 = .ok (.ifCond .ne 19, 3) := by decide +kernel
theorem dX11_list_118 : decode cX11_list 118 = .ok (.lload 9, 2) := by decide +kernel
theorem dX11_list_120 : decode cX11_list 120 = .ok (.lconst 1, 1) := by decide +kernel
theorem dX11_list_121 : decode cX11_list 121 = .ok (.land, 1) := by decide +kernel
theorem dX11_list_122 : decode cX11_list 122 = .ok (.lload 13, 2) := by decide +kernel
theorem dX11_list_124 : decode cX11_list 124 = .ok (.lconst 1, 1) := by decide +kernel
theorem dX11_list_125 : decode cX11_list 125 = .ok (.land, 1) := by decide +kernel
theorem dX11_list_126 : decode cX11_list 126 = .ok (.lcmp, 1) := by decide +kernel
theorem dX11_list_127 : decode cX11_list 127 = .ok (.ifCond .ne 7, 3) := by decide +kernel
theorem dX11_list_130 : decode cX11_list 130 = .ok (.iconst 1, 1) := by decide +kernel
theorem dX11_list_131 : decode cX11_list 131 = .ok (.goto 4, 3) := by decide +kernel
theorem dX11_list_134 : decode cX11_list 134 = .ok (.iconst 0, 1) := by decide +kernel
theorem dX11_list_135 : decode cX11_list 135 = .ok (.istore 17, 2) := by decide +kernel
theorem dX11_list_137 : decode cX11_list 137 = .ok (.lload 15, 2) := by decide +kernel
theorem dX11_list_139 : decode cX11_list 139 = .ok (.lconst 0, 1) := by decide +kernel
theorem dX11_list_140 : decode cX11_list 140 = .ok (.lcmp, 1) := by decide +kernel
theorem dX11_list_141 : decode cX11_list 141 = .ok (.ifCond .lt 8, 3) := by decide +kernel
theorem dX11_list_144 : decode cX11_list 144 = .ok (.iload 17, 2) := by decide +kernel
theorem dX11_list_146 : decode cX11_list 146 = .ok (.ifCond .ne 9, 3) := by decide +kernel
theorem dX11_list_149 : decode cX11_list 149 = .ok (.ldc2_w 159, 3) := by decide +kernel
theorem dX11_list_152 : decode cX11_list 152 = .ok (.goto 8, 3) := by decide +kernel
theorem dX11_list_155 : decode cX11_list 155 = .ok (.lload 15, 2) := by decide +kernel
theorem dX11_list_157 : decode cX11_list 157 = .ok (.invokestatic 184, 3) := by decide +kernel
theorem dX11_list_160 : decode cX11_list 160 = .ok (.lstore 18, 2) := by decide +kernel
theorem dX11_list_162 : decode cX11_list 162 = .ok (.lload 18, 2) := by decide +kernel
theorem dX11_list_164 : decode cX11_list 164 = .ok (.lconst 0, 1) := by decide +kernel
theorem dX11_list_165 : decode cX11_list 165 = .ok (.lcmp, 1) := by decide +kernel
theorem dX11_list_166 : decode cX11_list 166 = .ok (.ifCond .lt 97, 3) := by decide +kernel
theorem dX11_list_169 : decode cX11_list 169 = .ok (.lload 18, 2) := by decide +kernel
theorem dX11_list_171 : decode cX11_list 171 = .ok (.lload 18, 2) := by decide +kernel
theorem dX11_list_173 : decode cX11_list 173 = .ok (.lmul, 1) := by decide +kernel
theorem dX11_list_174 : decode cX11_list 174 = .ok (.lload 15, 2) := by decide +kernel
theorem dX11_list_176 : decode cX11_list 176 = .ok (.lcmp, 1) := by decide +kernel
theorem dX11_list_177 : decode cX11_list 177 = .ok (.ifCond .ne 86, 3) := by decide +kernel
theorem dX11_list_180 : decode cX11_list 180 = .ok (.lload 18, 2) := by decide +kernel
theorem dX11_list_182 : decode cX11_list 182 = .ok (.lconst 1, 1) := by decide +kernel
theorem dX11_list_183 : decode cX11_list 183 = .ok (.land, 1) := by decide +kernel
theorem dX11_list_184 : decode cX11_list 184 = .ok (.lload 9, 2) := by decide +kernel
theorem dX11_list_186 : decode cX11_list 186 = .ok (.lconst 1, 1) := by decide +kernel
theorem dX11_list_187 : decode cX11_list 187 = .ok (.land, 1) := by decide +kernel
theorem dX11_list_188 : decode cX11_list 188 = .ok (.lcmp, 1) := by decide +kernel
theorem dX11_list_189 : decode cX11_list 189 = .ok (.ifCond .ne 74, 3) := by decide +kernel
theorem dX11_list_192 : decode cX11_list 192 = .ok (.iconst 0, 1) := by decide +kernel
theorem dX11_list_193 : decode cX11_list 193 = .ok (.istore 20, 2) := by decide +kernel
theorem dX11_list_195 : decode cX11_list 195 = .ok (.iload 20, 2) := by decide +kernel
theorem dX11_list_197 : decode cX11_list 197 = .ok (.iconst 2, 1) := by decide +kernel
theorem dX11_list_198 : decode cX11_list 198 = .ok (.if_icmp .ge 65, 3) := by decide +kernel
theorem dX11_list_201 : decode cX11_list 201 = .ok (.iload 20, 2) := by decide +kernel
theorem dX11_list_203 : decode cX11_list 203 = .ok (.ifCond .eq 10, 3) := by decide +kernel
theorem dX11_list_206 : decode cX11_list 206 = .ok (.lload 18, 2) := by decide +kernel
theorem dX11_list_208 : decode cX11_list 208 = .ok (.lconst 0, 1) := by decide +kernel
theorem dX11_list_209 : decode cX11_list 209 = .ok (.lcmp, 1) := by decide +kernel
theorem dX11_list_210 : decode cX11_list 210 = .ok (.ifCond .le 47, 3) := by decide +kernel
theorem dX11_list_213 : decode cX11_list 213 = .ok (.iload 8, 2) := by decide +kernel
theorem dX11_list_215 : decode cX11_list 215 = .ok (.ifCond .ne 39, 3) := by decide +kernel
theorem dX11_list_218 : decode cX11_list 218 = .ok (.aload_n 0, 1) := by decide +kernel
theorem dX11_list_219 : decode cX11_list 219 = .ok (.iconst 0, 1) := by decide +kernel
theorem dX11_list_220 : decode cX11_list 220 = .ok (.lload 9, 2) := by decide +kernel
theorem dX11_list_222 : decode cX11_list 222 = .ok (.lload 11, 2) := by decide +kernel
theorem dX11_list_224 : decode cX11_list 224 = .ok (.lload 13, 2) := by decide +kernel
theorem dX11_list_226 : decode cX11_list 226 = .ok (.iload 20, 2) := by decide +kernel
theorem dX11_list_228 : decode cX11_list 228 = .ok (.ifCond .ne 9, 3) := by decide +kernel
theorem dX11_list_231 : decode cX11_list 231 = .ok (.lload 18, 2) := by decide +kernel
theorem dX11_list_233 : decode cX11_list 233 = .ok (.lneg, 1) := by decide +kernel
theorem dX11_list_234 : decode cX11_list 234 = .ok (.goto 5, 3) := by decide +kernel
theorem dX11_list_237 : decode cX11_list 237 = .ok (.lload 18, 2) := by decide +kernel
theorem dX11_list_239 : decode cX11_list 239 = .ok (.invokevirtual 68, 3) := by decide +kernel
theorem dX11_list_242 : decode cX11_list 242 = .ok (.aload_n 0, 1) := by decide +kernel
theorem dX11_list_243 : decode cX11_list 243 = .ok (.iload_n 1, 1) := by decide +kernel
theorem dX11_list_244 : decode cX11_list 244 = .ok (.iconst 0, 1) := by decide +kernel
theorem dX11_list_245 : decode cX11_list 245 = .ok (.invokevirtual 102, 3) := by decide +kernel
theorem dX11_list_248 : decode cX11_list 248 = .ok (.aload_n 0, 1) := by decide +kernel
theorem dX11_list_249 : decode cX11_list 249 = .ok (.iconst 0, 1) := by decide +kernel
theorem dX11_list_250 : decode cX11_list 250 = .ok (.invokevirtual 106, 3) := by decide +kernel
theorem dX11_list_253 : decode cX11_list 253 = .ok (.ireturn, 1) := by decide +kernel
theorem dX11_list_254 : decode cX11_list 254 = .ok (.iinc 8 (-1), 3) := by decide +kernel
theorem dX11_list_257 : decode cX11_list 257 = .ok (.iinc 20 1, 3) := by decide +kernel
theorem dX11_list_260 : decode cX11_list 260 = .ok (.goto (-65), 3) := by decide +kernel
theorem dX11_list_263 : decode cX11_list 263 = .ok (.lload 13, 2) := by decide +kernel
theorem dX11_list_265 : decode cX11_list 265 = .ok (.lconst 1, 1) := by decide +kernel
theorem dX11_list_266 : decode cX11_list 266 = .ok (.ladd, 1) := by decide +kernel
theorem dX11_list_267 : decode cX11_list 267 = .ok (.lstore 13, 2) := by decide +kernel
theorem dX11_list_269 : decode cX11_list 269 = .ok (.goto (-193), 3) := by decide +kernel
theorem dX11_list_272 : decode cX11_list 272 = .ok (.lload 11, 2) := by decide +kernel
theorem dX11_list_274 : decode cX11_list 274 = .ok (.lconst 1, 1) := by decide +kernel
theorem dX11_list_275 : decode cX11_list 275 = .ok (.ladd, 1) := by decide +kernel
theorem dX11_list_276 : decode cX11_list 276 = .ok (.lstore 11, 2) := by decide +kernel
theorem dX11_list_278 : decode cX11_list 278 = .ok (.goto (-215), 3) := by decide +kernel
theorem dX11_list_281 : decode cX11_list 281 = .ok (.lload 9, 2) := by decide +kernel
theorem dX11_list_283 : decode cX11_list 283 = .ok (.lconst 1, 1) := by decide +kernel
theorem dX11_list_284 : decode cX11_list 284 = .ok (.ladd, 1) := by decide +kernel
theorem dX11_list_285 : decode cX11_list 285 = .ok (.lstore 9, 2) := by decide +kernel
theorem dX11_list_287 : decode cX11_list 287 = .ok (.goto (-242), 3) := by decide +kernel
theorem dX11_list_290 : decode cX11_list 290 = .ok (.ldc 138, 2) := by decide +kernel
theorem dX11_list_292 : decode cX11_list 292 = .ok (.ireturn, 1) := by decide +kernel
theorem dX11_squares_0 : decode cX11_squares 0 = .ok (.iload_n 1, 1) := by decide +kernel
theorem dX11_squares_1 : decode cX11_squares 1 = .ok (.i2l, 1) := by decide +kernel
theorem dX11_squares_2 : decode cX11_squares 2 = .ok (.lconst 0, 1) := by decide +kernel
theorem dX11_squares_3 : decode cX11_squares 3 = .ok (.ldc2_w 180, 3) := by decide +kernel
theorem dX11_squares_6 : decode cX11_squares 6 = .ok (.invokestatic 46, 3) := by decide +kernel
theorem dX11_squares_9 : decode cX11_squares 9 = .ok (.ifCond .ne 6, 3) := by decide +kernel
theorem dX11_squares_12 : decode cX11_squares 12 = .ok (.ldc 56, 2) := by decide +kernel
theorem dX11_squares_14 : decode cX11_squares 14 = .ok (.ireturn, 1) := by decide +kernel
theorem dX11_squares_15 : decode cX11_squares 15 = .ok (.iload_n 1, 1) := by decide +kernel
theorem dX11_squares_16 : decode cX11_squares 16 = .ok (.ifCond .ne 5, 3) := by decide +kernel
theorem dX11_squares_19 : decode cX11_squares 19 = .ok (.iconst 1, 1) := by decide +kernel
theorem dX11_squares_20 : decode cX11_squares 20 = .ok (.ireturn, 1) := by decide +kernel
theorem dX11_squares_21 : decode cX11_squares 21 = .ok (.iconst 0, 1) := by decide +kernel
theorem dX11_squares_22 : decode cX11_squares 22 = .ok (.istore_n 2, 1) := by decide +kernel
theorem dX11_squares_23 : decode cX11_squares 23 = .ok (.iconst 1, 1) := by decide +kernel
theorem dX11_squares_24 : decode cX11_squares 24 = .ok (.istore_n 3, 1) := by decide +kernel
theorem dX11_squares_25 : decode cX11_squares 25 = .ok (.iload_n 3, 1) := by decide +kernel
theorem dX11_squares_26 : decode cX11_squares 26 = .ok (.iload_n 1, 1) := by decide +kernel
theorem dX11_squares_27 : decode cX11_squares 27 = .ok (.if_icmp .gt 29, 3) := by decide +kernel
theorem dX11_squares_30 : decode cX11_squares 30 = .ok (.iload_n 2, 1) := by decide +kernel
theorem dX11_squares_31 : decode cX11_squares 31 = .ok (.iload_n 1, 1) := by decide +kernel
theorem dX11_squares_32 : decode cX11_squares 32 = .ok (.iload_n 3, 1) := by decide +kernel
theorem dX11_squares_33 : decode cX11_squares 33 = .ok (.irem, 1) := by decide +kernel
theorem dX11_squares_34 : decode cX11_squares 34 = .ok (.ifCond .ne 13, 3) := by decide +kernel
theorem dX11_squares_37 : decode cX11_squares 37 = .ok (.iload_n 3, 1) := by decide +kernel
theorem dX11_squares_38 : decode cX11_squares 38 = .ok (.iconst 4, 1) := by decide +kernel
theorem dX11_squares_39 : decode cX11_squares 39 = .ok (.irem, 1) := by decide +kernel
theorem dX11_squares_40 : decode cX11_squares 40 = .ok (.ifCond .eq 7, 3) := by decide +kernel
theorem dX11_squares_43 : decode cX11_squares 43 = .ok (.iload_n 3, 1) := by decide +kernel
theorem dX11_squares_44 : decode cX11_squares 44 = .ok (.goto 4, 3) := by decide +kernel
theorem dX11_squares_47 : decode cX11_squares 47 = .ok (.iconst 0, 1) := by decide +kernel
theorem dX11_squares_48 : decode cX11_squares 48 = .ok (.iadd, 1) := by decide +kernel
theorem dX11_squares_49 : decode cX11_squares 49 = .ok (.istore_n 2, 1) := by decide +kernel
theorem dX11_squares_50 : decode cX11_squares 50 = .ok (.iinc 3 1, 3) := by decide +kernel
theorem dX11_squares_53 : decode cX11_squares 53 = .ok (.goto (-28), 3) := by decide +kernel
theorem dX11_squares_56 : decode cX11_squares 56 = .ok (.bipush 8, 2) := by decide +kernel
theorem dX11_squares_58 : decode cX11_squares 58 = .ok (.iload_n 2, 1) := by decide +kernel
theorem dX11_squares_59 : decode cX11_squares 59 = .ok (.imul, 1) := by decide +kernel
theorem dX11_squares_60 : decode cX11_squares 60 = .ok (.ireturn, 1) := by decide +kernel
theorem dX11_three_0 : decode cX11_three 0 = .ok (.iload_n 1, 1) := by decide +kernel
theorem dX11_three_1 : decode cX11_three 1 = .ok (.i2l, 1) := by decide +kernel
theorem dX11_three_2 : decode cX11_three 2 = .ok (.lconst 0, 1) := by decide +kernel
theorem dX11_three_3 : decode cX11_three 3 = .ok (.ldc2_w 180, 3) := by decide +kernel
theorem dX11_three_6 : decode cX11_three 6 = .ok (.invokestatic 46, 3) := by decide +kernel
theorem dX11_three_9 : decode cX11_three 9 = .ok (.ifCond .ne 6, 3) := by decide +kernel
theorem dX11_three_12 : decode cX11_three 12 = .ok (.ldc 56, 2) := by decide +kernel
theorem dX11_three_14 : decode cX11_three 14 = .ok (.ireturn, 1) := by decide +kernel
theorem dX11_three_15 : decode cX11_three 15 = .ok (.iload_n 1, 1) := by decide +kernel
theorem dX11_three_16 : decode cX11_three 16 = .ok (.istore_n 2, 1) := by decide +kernel
theorem dX11_three_17 : decode cX11_three 17 = .ok (.iload_n 2, 1) := by decide +kernel
theorem dX11_three_18 : decode cX11_three 18 = .ok (.ifCond .le 16, 3) := by decide +kernel
theorem dX11_three_21 : decode cX11_three 21 = .ok (.iload_n 2, 1) := by decide +kernel
theorem dX11_three_22 : decode cX11_three 22 = .ok (.iconst 4, 1) := by decide +kernel
theorem dX11_three_23 : decode cX11_three 23 = .ok (.irem, 1) := by decide +kernel
theorem dX11_three_24 : decode cX11_three 24 = .ok (.ifCond .ne 10, 3) := by decide +kernel
theorem dX11_three_27 : decode cX11_three 27 = .ok (.iload_n 2, 1) := by decide +kernel
theorem dX11_three_28 : decode cX11_three 28 = .ok (.iconst 4, 1) := by decide +kernel
theorem dX11_three_29 : decode cX11_three 29 = .ok (.idiv, 1) := by decide +kernel
theorem dX11_three_30 : decode cX11_three 30 = .ok (.istore_n 2, 1) := by decide +kernel
theorem dX11_three_31 : decode cX11_three 31 = .ok (.goto (-14), 3) := by decide +kernel
theorem dX11_three_34 : decode cX11_three 34 = .ok (.iload_n 2, 1) := by decide +kernel
theorem dX11_three_35 : decode cX11_three 35 = .ok (.bipush 8, 2) := by decide +kernel
theorem dX11_three_37 : decode cX11_three 37 = .ok (.irem, 1) := by decide +kernel
theorem dX11_three_38 : decode cX11_three 38 = .ok (.bipush 7, 2) := by decide +kernel
theorem dX11_three_40 : decode cX11_three 40 = .ok (.if_icmp .ne 7, 3) := by decide +kernel
theorem dX11_three_43 : decode cX11_three 43 = .ok (.iconst 0, 1) := by decide +kernel
theorem dX11_three_44 : decode cX11_three 44 = .ok (.goto 4, 3) := by decide +kernel
theorem dX11_three_47 : decode cX11_three 47 = .ok (.iconst 1, 1) := by decide +kernel
theorem dX11_three_48 : decode cX11_three 48 = .ok (.ireturn, 1) := by decide +kernel
theorem dX11_upper_0 : decode cX11_upper 0 = .ok (.aload_n 0, 1) := by decide +kernel
theorem dX11_upper_1 : decode cX11_upper 1 = .ok (.getfield 33, 3) := by decide +kernel
theorem dX11_upper_4 : decode cX11_upper 4 = .ok (.iconst 0, 1) := by decide +kernel
theorem dX11_upper_5 : decode cX11_upper 5 = .ok (.laload, 1) := by decide +kernel
theorem dX11_upper_6 : decode cX11_upper 6 = .ok (.lstore_n 3, 1) := by decide +kernel
theorem dX11_upper_7 : decode cX11_upper 7 = .ok (.aload_n 0, 1) := by decide +kernel
theorem dX11_upper_8 : decode cX11_upper 8 = .ok (.getfield 33, 3) := by decide +kernel
theorem dX11_upper_11 : decode cX11_upper 11 = .ok (.iconst 1, 1) := by decide +kernel
theorem dX11_upper_12 : decode cX11_upper 12 = .ok (.iload_n 1, 1) := by decide +kernel
theorem dX11_upper_13 : decode cX11_upper 13 = .ok (.iadd, 1) := by decide +kernel
theorem dX11_upper_14 : decode cX11_upper 14 = .ok (.laload, 1) := by decide +kernel
theorem dX11_upper_15 : decode cX11_upper 15 = .ok (.lstore 5, 2) := by decide +kernel
theorem dX11_upper_17 : decode cX11_upper 17 = .ok (.aload_n 0, 1) := by decide +kernel
theorem dX11_upper_18 : decode cX11_upper 18 = .ok (.getfield 33, 3) := by decide +kernel
theorem dX11_upper_21 : decode cX11_upper 21 = .ok (.iconst 1, 1) := by decide +kernel
theorem dX11_upper_22 : decode cX11_upper 22 = .ok (.iload_n 2, 1) := by decide +kernel
theorem dX11_upper_23 : decode cX11_upper 23 = .ok (.iadd, 1) := by decide +kernel
theorem dX11_upper_24 : decode cX11_upper 24 = .ok (.laload, 1) := by decide +kernel
theorem dX11_upper_25 : decode cX11_upper 25 = .ok (.lstore 7, 2) := by decide +kernel
theorem dX11_upper_27 : decode cX11_upper 27 = .ok (.iload_n 1, 1) := by decide +kernel
theorem dX11_upper_28 : decode cX11_upper 28 = .ok (.iload_n 2, 1) := by decide +kernel
theorem dX11_upper_29 : decode cX11_upper 29 = .ok (.if_icmp .ne 31, 3) := by decide +kernel
theorem dX11_upper_32 : decode cX11_upper 32 = .ok (.ldc2_w 54, 3) := by decide +kernel
theorem dX11_upper_35 : decode cX11_upper 35 = .ok (.lload_n 3, 1) := by decide +kernel
theorem dX11_upper_36 : decode cX11_upper 36 = .ok (.lmul, 1) := by decide +kernel
theorem dX11_upper_37 : decode cX11_upper 37 = .ok (.lload_n 3, 1) := by decide +kernel
theorem dX11_upper_38 : decode cX11_upper 38 = .ok (.lmul, 1) := by decide +kernel
theorem dX11_upper_39 : decode cX11_upper 39 = .ok (.ldc2_w 54, 3) := by decide +kernel
theorem dX11_upper_42 : decode cX11_upper 42 = .ok (.lload 5, 2) := by decide +kernel
theorem dX11_upper_44 : decode cX11_upper 44 = .ok (.lmul, 1) := by decide +kernel
theorem dX11_upper_45 : decode cX11_upper 45 = .ok (.lload 5, 2) := by decide +kernel
theorem dX11_upper_47 : decode cX11_upper 47 = .ok (.lmul, 1) := by decide +kernel
theorem dX11_upper_48 : decode cX11_upper 48 = .ok (.ladd, 1) := by decide +kernel
theorem dX11_upper_49 : decode cX11_upper 49 = .ok (.ldc2_w 66, 3) := by decide +kernel
theorem dX11_upper_52 : decode cX11_upper 52 = .ok (.aload_n 0, 1) := by decide +kernel
theorem dX11_upper_53 : decode cX11_upper 53 = .ok (.iconst 0, 1) := by decide +kernel
theorem dX11_upper_54 : decode cX11_upper 54 = .ok (.invokevirtual 83, 3) := by decide +kernel
theorem dX11_upper_57 : decode cX11_upper 57 = .ok (.lmul, 1) := by decide +kernel
theorem dX11_upper_58 : decode cX11_upper 58 = .ok (.lsub, 1) := by decide +kernel
theorem dX11_upper_59 : decode cX11_upper 59 = .ok (.lreturn, 1) := by decide +kernel
theorem dX11_upper_60 : decode cX11_upper 60 = .ok (.aload_n 0, 1) := by decide +kernel
theorem dX11_upper_61 : decode cX11_upper 61 = .ok (.getfield 33, 3) := by decide +kernel
theorem dX11_upper_64 : decode cX11_upper 64 = .ok (.iconst 1, 1) := by decide +kernel
theorem dX11_upper_65 : decode cX11_upper 65 = .ok (.iconst 3, 1) := by decide +kernel
theorem dX11_upper_66 : decode cX11_upper 66 = .ok (.iload_n 1, 1) := by decide +kernel
theorem dX11_upper_67 : decode cX11_upper 67 = .ok (.isub, 1) := by decide +kernel
theorem dX11_upper_68 : decode cX11_upper 68 = .ok (.iload_n 2, 1) := by decide +kernel
theorem dX11_upper_69 : decode cX11_upper 69 = .ok (.isub, 1) := by decide +kernel
theorem dX11_upper_70 : decode cX11_upper 70 = .ok (.iadd, 1) := by decide +kernel
theorem dX11_upper_71 : decode cX11_upper 71 = .ok (.laload, 1) := by decide +kernel
theorem dX11_upper_72 : decode cX11_upper 72 = .ok (.lstore 9, 2) := by decide +kernel
theorem dX11_upper_74 : decode cX11_upper 74 = .ok (.iload_n 1, 1) := by decide +kernel
theorem dX11_upper_75 : decode cX11_upper 75 = .ok (.iconst 1, 1) := by decide +kernel
theorem dX11_upper_76 : decode cX11_upper 76 = .ok (.iadd, 1) := by decide +kernel
theorem dX11_upper_77 : decode cX11_upper 77 = .ok (.iconst 3, 1) := by decide +kernel
theorem dX11_upper_78 : decode cX11_upper 78 = .ok (.irem, 1) := by decide +kernel
theorem dX11_upper_79 : decode cX11_upper 79 = .ok (.iload_n 2, 1) := by decide +kernel
theorem dX11_upper_80 : decode cX11_upper 80 = .ok (.if_icmp .ne 7, 3) := by decide +kernel
theorem dX11_upper_83 : decode cX11_upper 83 = .ok (.iconst 1, 1) := by decide +kernel
theorem dX11_upper_84 : decode cX11_upper 84 = .ok (.goto 4, 3) := by decide +kernel
theorem dX11_upper_87 : decode cX11_upper 87 = .ok (.iconst 0, 1) := by decide +kernel
theorem dX11_upper_88 : decode cX11_upper 88 = .ok (.istore 11, 2) := by decide +kernel
theorem dX11_upper_90 : decode cX11_upper 90 = .ok (.ldc2_w 54, 3) := by decide +kernel
theorem dX11_upper_93 : decode cX11_upper 93 = .ok (.lload 5, 2) := by decide +kernel
theorem dX11_upper_95 : decode cX11_upper 95 = .ok (.lmul, 1) := by decide +kernel
theorem dX11_upper_96 : decode cX11_upper 96 = .ok (.lload 7, 2) := by decide +kernel
theorem dX11_upper_98 : decode cX11_upper 98 = .ok (.lmul, 1) := by decide +kernel
theorem dX11_upper_99 : decode cX11_upper 99 = .ok (.iload 11, 2) := by decide +kernel
theorem dX11_upper_101 : decode cX11_upper 101 = .ok (.ifCond .eq 9, 3) := by decide +kernel
theorem dX11_upper_104 : decode cX11_upper 104 = .ok (.ldc2_w 157, 3) := by decide +kernel
theorem dX11_upper_107 : decode cX11_upper 107 = .ok (.goto 6, 3) := by decide +kernel
theorem dX11_upper_110 : decode cX11_upper 110 = .ok (.ldc2_w 54, 3) := by decide +kernel
theorem dX11_upper_113 : decode cX11_upper 113 = .ok (.lload_n 3, 1) := by decide +kernel
theorem dX11_upper_114 : decode cX11_upper 114 = .ok (.lmul, 1) := by decide +kernel
theorem dX11_upper_115 : decode cX11_upper 115 = .ok (.lload 9, 2) := by decide +kernel
theorem dX11_upper_117 : decode cX11_upper 117 = .ok (.lmul, 1) := by decide +kernel
theorem dX11_upper_118 : decode cX11_upper 118 = .ok (.ladd, 1) := by decide +kernel
theorem dX11_upper_119 : decode cX11_upper 119 = .ok (.lreturn, 1) := by decide +kernel
theorem dX11_refusal_0 : decode cX11_refusal 0 = .ok (.aload_n 0, 1) := by decide +kernel
theorem dX11_refusal_1 : decode cX11_refusal 1 = .ok (.getfield 7, 3) := by decide +kernel
theorem dX11_refusal_4 : decode cX11_refusal 4 = .ok (.iload_n 1, 1) := by decide +kernel
theorem dX11_refusal_5 : decode cX11_refusal 5 = .ok (.baload, 1) := by decide +kernel
theorem dX11_refusal_6 : decode cX11_refusal 6 = .ok (.ifCond .ne 9, 3) := by decide +kernel
theorem dX11_refusal_9 : decode cX11_refusal 9 = .ok (.aload_n 0, 1) := by decide +kernel
theorem dX11_refusal_10 : decode cX11_refusal 10 = .ok (.iconst 1, 1) := by decide +kernel
theorem dX11_refusal_11 : decode cX11_refusal 11 = .ok (.invokevirtual 57, 3) := by decide +kernel
theorem dX11_refusal_14 : decode cX11_refusal 14 = .ok (.ireturn, 1) := by decide +kernel
theorem dX11_refusal_15 : decode cX11_refusal 15 = .ok (.aload_n 0, 1) := by decide +kernel
theorem dX11_refusal_16 : decode cX11_refusal 16 = .ok (.iconst 0, 1) := by decide +kernel
theorem dX11_refusal_17 : decode cX11_refusal 17 = .ok (.iload_n 1, 1) := by decide +kernel
theorem dX11_refusal_18 : decode cX11_refusal 18 = .ok (.invokevirtual 111, 3) := by decide +kernel
theorem dX11_refusal_21 : decode cX11_refusal 21 = .ok (.aload_n 0, 1) := by decide +kernel
theorem dX11_refusal_22 : decode cX11_refusal 22 = .ok (.iconst 0, 1) := by decide +kernel
theorem dX11_refusal_23 : decode cX11_refusal 23 = .ok (.invokevirtual 76, 3) := by decide +kernel
theorem dX11_refusal_26 : decode cX11_refusal 26 = .ok (.ifCond .eq 8, 3) := by decide +kernel
theorem dX11_refusal_29 : decode cX11_refusal 29 = .ok (.ldc 153, 2) := by decide +kernel
theorem dX11_refusal_31 : decode cX11_refusal 31 = .ok (.goto 4, 3) := by decide +kernel
theorem dX11_refusal_34 : decode cX11_refusal 34 = .ok (.iconst 0, 1) := by decide +kernel
theorem dX11_refusal_35 : decode cX11_refusal 35 = .ok (.ireturn, 1) := by decide +kernel
theorem dX11_part2_0 : decode cX11_part2 0 = .ok (.lload_n 1, 1) := by decide +kernel
theorem dX11_part2_1 : decode cX11_part2 1 = .ok (.lload_n 3, 1) := by decide +kernel
theorem dX11_part2_2 : decode cX11_part2 2 = .ok (.invokestatic 72, 3) := by decide +kernel
theorem dX11_part2_5 : decode cX11_part2 5 = .ok (.lstore 6, 2) := by decide +kernel
theorem dX11_part2_7 : decode cX11_part2 7 = .ok (.aload_n 0, 1) := by decide +kernel
theorem dX11_part2_8 : decode cX11_part2 8 = .ok (.iconst 0, 1) := by decide +kernel
theorem dX11_part2_9 : decode cX11_part2 9 = .ok (.putfield 39, 3) := by decide +kernel
theorem dX11_part2_12 : decode cX11_part2 12 = .ok (.iload 5, 2) := by decide +kernel
theorem dX11_part2_14 : decode cX11_part2 14 = .ok (.ifCond .ne 10, 3) := by decide +kernel
theorem dX11_part2_17 : decode cX11_part2 17 = .ok (.lload_n 1, 1) := by decide +kernel
theorem dX11_part2_18 : decode cX11_part2 18 = .ok (.lload 6, 2) := by decide +kernel
theorem dX11_part2_20 : decode cX11_part2 20 = .ok (.ldiv, 1) := by decide +kernel
theorem dX11_part2_21 : decode cX11_part2 21 = .ok (.goto 7, 3) := by decide +kernel
theorem dX11_part2_24 : decode cX11_part2 24 = .ok (.lload_n 3, 1) := by decide +kernel
theorem dX11_part2_25 : decode cX11_part2 25 = .ok (.lload 6, 2) := by decide +kernel
theorem dX11_part2_27 : decode cX11_part2 27 = .ok (.ldiv, 1) := by decide +kernel
theorem dX11_part2_28 : decode cX11_part2 28 = .ok (.lreturn, 1) := by decide +kernel
theorem dX11_table_0 : decode cX11_table 0 = .ok (.iload_n 1, 1) := by decide +kernel
theorem dX11_table_1 : decode cX11_table 1 = .ok (.invokestatic 92, 3) := by decide +kernel
theorem dX11_table_4 : decode cX11_table 4 = .ok (.ifCond .eq 38, 3) := by decide +kernel
theorem dX11_table_7 : decode cX11_table 7 = .ok (.iload_n 2, 1) := by decide +kernel
theorem dX11_table_8 : decode cX11_table 8 = .ok (.i2l, 1) := by decide +kernel
theorem dX11_table_9 : decode cX11_table 9 = .ok (.lconst 0, 1) := by decide +kernel
theorem dX11_table_10 : decode cX11_table 10 = .ok (.ldc2_w 54, 3) := by decide +kernel
theorem dX11_table_13 : decode cX11_table 13 = .ok (.invokestatic 46, 3) := by decide +kernel
theorem dX11_table_16 : decode cX11_table 16 = .ok (.ifCond .eq 26, 3) := by decide +kernel
theorem dX11_table_19 : decode cX11_table 19 = .ok (.iload_n 3, 1) := by decide +kernel
theorem dX11_table_20 : decode cX11_table 20 = .ok (.i2l, 1) := by decide +kernel
theorem dX11_table_21 : decode cX11_table 21 = .ok (.lconst 0, 1) := by decide +kernel
theorem dX11_table_22 : decode cX11_table 22 = .ok (.ldc2_w 54, 3) := by decide +kernel
theorem dX11_table_25 : decode cX11_table 25 = .ok (.invokestatic 46, 3) := by decide +kernel
theorem dX11_table_28 : decode cX11_table 28 = .ok (.ifCond .eq 14, 3) := by decide +kernel
theorem dX11_table_31 : decode cX11_table 31 = .ok (.iload 4, 2) := by decide +kernel
theorem dX11_table_33 : decode cX11_table 33 = .ok (.i2l, 1) := by decide +kernel
theorem dX11_table_34 : decode cX11_table 34 = .ok (.lconst 0, 1) := by decide +kernel
theorem dX11_table_35 : decode cX11_table 35 = .ok (.lconst 1, 1) := by decide +kernel
theorem dX11_table_36 : decode cX11_table 36 = .ok (.invokestatic 46, 3) := by decide +kernel
theorem dX11_table_39 : decode cX11_table 39 = .ok (.ifCond .ne 7, 3) := by decide +kernel
theorem dX11_table_42 : decode cX11_table 42 = .ok (.ldc2_w 64, 3) := by decide +kernel
theorem dX11_table_45 : decode cX11_table 45 = .ok (.lreturn, 1) := by decide +kernel
theorem dX11_table_46 : decode cX11_table 46 = .ok (.aload_n 0, 1) := by decide +kernel
theorem dX11_table_47 : decode cX11_table 47 = .ok (.iload_n 1, 1) := by decide +kernel
theorem dX11_table_48 : decode cX11_table 48 = .ok (.invokevirtual 187, 3) := by decide +kernel
theorem dX11_table_51 : decode cX11_table 51 = .ok (.istore 5, 2) := by decide +kernel
theorem dX11_table_53 : decode cX11_table 53 = .ok (.iload 5, 2) := by decide +kernel
theorem dX11_table_55 : decode cX11_table 55 = .ok (.ifCond .eq 9, 3) := by decide +kernel
theorem dX11_table_58 : decode cX11_table 58 = .ok (.iload 5, 2) := by decide +kernel
theorem dX11_table_60 : decode cX11_table 60 = .ok (.i2l, 1) := by decide +kernel
theorem dX11_table_61 : decode cX11_table 61 = .ok (.goto 24, 3) := by decide +kernel
theorem dX11_table_64 : decode cX11_table 64 = .ok (.aload_n 0, 1) := by decide +kernel
theorem dX11_table_65 : decode cX11_table 65 = .ok (.aload_n 0, 1) := by decide +kernel
theorem dX11_table_66 : decode cX11_table 66 = .ok (.iload_n 2, 1) := by decide +kernel
theorem dX11_table_67 : decode cX11_table 67 = .ok (.iload_n 3, 1) := by decide +kernel
theorem dX11_table_68 : decode cX11_table 68 = .ok (.invokevirtual 190, 3) := by decide +kernel
theorem dX11_table_71 : decode cX11_table 71 = .ok (.ldc2_w 66, 3) := by decide +kernel
theorem dX11_table_74 : decode cX11_table 74 = .ok (.aload_n 0, 1) := by decide +kernel
theorem dX11_table_75 : decode cX11_table 75 = .ok (.iconst 0, 1) := by decide +kernel
theorem dX11_table_76 : decode cX11_table 76 = .ok (.invokevirtual 83, 3) := by decide +kernel
theorem dX11_table_79 : decode cX11_table 79 = .ok (.lmul, 1) := by decide +kernel
theorem dX11_table_80 : decode cX11_table 80 = .ok (.iload 4, 2) := by decide +kernel
theorem dX11_table_82 : decode cX11_table 82 = .ok (.invokevirtual 194, 3) := by decide +kernel
theorem dX11_table_85 : decode cX11_table 85 = .ok (.lreturn, 1) := by decide +kernel
theorem dX11_turn_0 : decode cX11_turn 0 = .ok (.iload_n 1, 1) := by decide +kernel
theorem dX11_turn_1 : decode cX11_turn 1 = .ok (.invokestatic 92, 3) := by decide +kernel
theorem dX11_turn_4 : decode cX11_turn 4 = .ok (.ifCond .eq 70, 3) := by decide +kernel
theorem dX11_turn_7 : decode cX11_turn 7 = .ok (.iload_n 2, 1) := by decide +kernel
theorem dX11_turn_8 : decode cX11_turn 8 = .ok (.i2l, 1) := by decide +kernel
theorem dX11_turn_9 : decode cX11_turn 9 = .ok (.ldc2_w 198, 3) := by decide +kernel
theorem dX11_turn_12 : decode cX11_turn 12 = .ok (.ldc2_w 200, 3) := by decide +kernel
theorem dX11_turn_15 : decode cX11_turn 15 = .ok (.invokestatic 46, 3) := by decide +kernel
theorem dX11_turn_18 : decode cX11_turn 18 = .ok (.ifCond .eq 56, 3) := by decide +kernel
theorem dX11_turn_21 : decode cX11_turn 21 = .ok (.iload_n 3, 1) := by decide +kernel
theorem dX11_turn_22 : decode cX11_turn 22 = .ok (.i2l, 1) := by decide +kernel
theorem dX11_turn_23 : decode cX11_turn 23 = .ok (.ldc2_w 198, 3) := by decide +kernel
theorem dX11_turn_26 : decode cX11_turn 26 = .ok (.ldc2_w 200, 3) := by decide +kernel
theorem dX11_turn_29 : decode cX11_turn 29 = .ok (.invokestatic 46, 3) := by decide +kernel
theorem dX11_turn_32 : decode cX11_turn 32 = .ok (.ifCond .eq 42, 3) := by decide +kernel
theorem dX11_turn_35 : decode cX11_turn 35 = .ok (.iload 4, 2) := by decide +kernel
theorem dX11_turn_37 : decode cX11_turn 37 = .ok (.i2l, 1) := by decide +kernel
theorem dX11_turn_38 : decode cX11_turn 38 = .ok (.ldc2_w 198, 3) := by decide +kernel
theorem dX11_turn_41 : decode cX11_turn 41 = .ok (.ldc2_w 200, 3) := by decide +kernel
theorem dX11_turn_44 : decode cX11_turn 44 = .ok (.invokestatic 46, 3) := by decide +kernel
theorem dX11_turn_47 : decode cX11_turn 47 = .ok (.ifCond .eq 27, 3) := by decide +kernel
theorem dX11_turn_50 : decode cX11_turn 50 = .ok (.iload 5, 2) := by decide +kernel
theorem dX11_turn_52 : decode cX11_turn 52 = .ok (.i2l, 1) := by decide +kernel
theorem dX11_turn_53 : decode cX11_turn 53 = .ok (.lconst 0, 1) := by decide +kernel
theorem dX11_turn_54 : decode cX11_turn 54 = .ok (.ldc2_w 54, 3) := by decide +kernel
theorem dX11_turn_57 : decode cX11_turn 57 = .ok (.invokestatic 46, 3) := by decide +kernel
theorem dX11_turn_60 : decode cX11_turn 60 = .ok (.ifCond .eq 14, 3) := by decide +kernel
theorem dX11_turn_63 : decode cX11_turn 63 = .ok (.iload 6, 2) := by decide +kernel
theorem dX11_turn_65 : decode cX11_turn 65 = .ok (.i2l, 1) := by decide +kernel
theorem dX11_turn_66 : decode cX11_turn 66 = .ok (.lconst 0, 1) := by decide +kernel
theorem dX11_turn_67 : decode cX11_turn 67 = .ok (.lconst 1, 1) := by decide +kernel
theorem dX11_turn_68 : decode cX11_turn 68 = .ok (.invokestatic 46, 3) := by decide +kernel
theorem dX11_turn_71 : decode cX11_turn 71 = .ok (.ifCond .ne 7, 3) := by decide +kernel
theorem dX11_turn_74 : decode cX11_turn 74 = .ok (.ldc2_w 64, 3) := by decide +kernel
theorem dX11_turn_77 : decode cX11_turn 77 = .ok (.lreturn, 1) := by decide +kernel
theorem dX11_turn_78 : decode cX11_turn 78 = .ok (.aload_n 0, 1) := by decide +kernel
theorem dX11_turn_79 : decode cX11_turn 79 = .ok (.iload_n 1, 1) := by decide +kernel
theorem dX11_turn_80 : decode cX11_turn 80 = .ok (.invokevirtual 187, 3) := by decide +kernel
theorem dX11_turn_83 : decode cX11_turn 83 = .ok (.istore 7, 2) := by decide +kernel
theorem dX11_turn_85 : decode cX11_turn 85 = .ok (.iload 7, 2) := by decide +kernel
theorem dX11_turn_87 : decode cX11_turn 87 = .ok (.ifCond .eq 9, 3) := by decide +kernel
theorem dX11_turn_90 : decode cX11_turn 90 = .ok (.iload 7, 2) := by decide +kernel
theorem dX11_turn_92 : decode cX11_turn 92 = .ok (.i2l, 1) := by decide +kernel
theorem dX11_turn_93 : decode cX11_turn 93 = .ok (.goto 51, 3) := by decide +kernel
theorem dX11_turn_96 : decode cX11_turn 96 = .ok (.aload_n 0, 1) := by decide +kernel
theorem dX11_turn_97 : decode cX11_turn 97 = .ok (.aload_n 0, 1) := by decide +kernel
theorem dX11_turn_98 : decode cX11_turn 98 = .ok (.iload 5, 2) := by decide +kernel
theorem dX11_turn_100 : decode cX11_turn 100 = .ok (.iconst 0, 1) := by decide +kernel
theorem dX11_turn_101 : decode cX11_turn 101 = .ok (.invokevirtual 190, 3) := by decide +kernel
theorem dX11_turn_104 : decode cX11_turn 104 = .ok (.iload_n 2, 1) := by decide +kernel
theorem dX11_turn_105 : decode cX11_turn 105 = .ok (.i2l, 1) := by decide +kernel
theorem dX11_turn_106 : decode cX11_turn 106 = .ok (.lmul, 1) := by decide +kernel
theorem dX11_turn_107 : decode cX11_turn 107 = .ok (.aload_n 0, 1) := by decide +kernel
theorem dX11_turn_108 : decode cX11_turn 108 = .ok (.iload 5, 2) := by decide +kernel
theorem dX11_turn_110 : decode cX11_turn 110 = .ok (.iconst 1, 1) := by decide +kernel
theorem dX11_turn_111 : decode cX11_turn 111 = .ok (.invokevirtual 190, 3) := by decide +kernel
theorem dX11_turn_114 : decode cX11_turn 114 = .ok (.iload_n 3, 1) := by decide +kernel
theorem dX11_turn_115 : decode cX11_turn 115 = .ok (.i2l, 1) := by decide +kernel
theorem dX11_turn_116 : decode cX11_turn 116 = .ok (.lmul, 1) := by decide +kernel
theorem dX11_turn_117 : decode cX11_turn 117 = .ok (.ladd, 1) := by decide +kernel
theorem dX11_turn_118 : decode cX11_turn 118 = .ok (.aload_n 0, 1) := by decide +kernel
theorem dX11_turn_119 : decode cX11_turn 119 = .ok (.iload 5, 2) := by decide +kernel
theorem dX11_turn_121 : decode cX11_turn 121 = .ok (.iconst 2, 1) := by decide +kernel
theorem dX11_turn_122 : decode cX11_turn 122 = .ok (.invokevirtual 190, 3) := by decide +kernel
theorem dX11_turn_125 : decode cX11_turn 125 = .ok (.iload 4, 2) := by decide +kernel
theorem dX11_turn_127 : decode cX11_turn 127 = .ok (.i2l, 1) := by decide +kernel
theorem dX11_turn_128 : decode cX11_turn 128 = .ok (.lmul, 1) := by decide +kernel
theorem dX11_turn_129 : decode cX11_turn 129 = .ok (.ladd, 1) := by decide +kernel
theorem dX11_turn_130 : decode cX11_turn 130 = .ok (.ldc2_w 66, 3) := by decide +kernel
theorem dX11_turn_133 : decode cX11_turn 133 = .ok (.aload_n 0, 1) := by decide +kernel
theorem dX11_turn_134 : decode cX11_turn 134 = .ok (.iconst 0, 1) := by decide +kernel
theorem dX11_turn_135 : decode cX11_turn 135 = .ok (.invokevirtual 83, 3) := by decide +kernel
theorem dX11_turn_138 : decode cX11_turn 138 = .ok (.lmul, 1) := by decide +kernel
theorem dX11_turn_139 : decode cX11_turn 139 = .ok (.iload 6, 2) := by decide +kernel
theorem dX11_turn_141 : decode cX11_turn 141 = .ok (.invokevirtual 194, 3) := by decide +kernel
theorem dX11_turn_144 : decode cX11_turn 144 = .ok (.lreturn, 1) := by decide +kernel
theorem dX11_order_0 : decode cX11_order 0 = .ok (.iload_n 1, 1) := by decide +kernel
theorem dX11_order_1 : decode cX11_order 1 = .ok (.invokestatic 92, 3) := by decide +kernel
theorem dX11_order_4 : decode cX11_order 4 = .ok (.ifCond .ne 6, 3) := by decide +kernel
theorem dX11_order_7 : decode cX11_order 7 = .ok (.ldc 56, 2) := by decide +kernel
theorem dX11_order_9 : decode cX11_order 9 = .ok (.ireturn, 1) := by decide +kernel
theorem dX11_order_10 : decode cX11_order 10 = .ok (.aload_n 0, 1) := by decide +kernel
theorem dX11_order_11 : decode cX11_order 11 = .ok (.iload_n 1, 1) := by decide +kernel
theorem dX11_order_12 : decode cX11_order 12 = .ok (.invokevirtual 187, 3) := by decide +kernel
theorem dX11_order_15 : decode cX11_order 15 = .ok (.istore_n 2, 1) := by decide +kernel
theorem dX11_order_16 : decode cX11_order 16 = .ok (.iload_n 2, 1) := by decide +kernel
theorem dX11_order_17 : decode cX11_order 17 = .ok (.ifCond .eq 5, 3) := by decide +kernel
theorem dX11_order_20 : decode cX11_order 20 = .ok (.iload_n 2, 1) := by decide +kernel
theorem dX11_order_21 : decode cX11_order 21 = .ok (.ireturn, 1) := by decide +kernel
theorem dX11_order_22 : decode cX11_order 22 = .ok (.aload_n 0, 1) := by decide +kernel
theorem dX11_order_23 : decode cX11_order 23 = .ok (.getfield 33, 3) := by decide +kernel
theorem dX11_order_26 : decode cX11_order 26 = .ok (.iconst 0, 1) := by decide +kernel
theorem dX11_order_27 : decode cX11_order 27 = .ok (.laload, 1) := by decide +kernel
theorem dX11_order_28 : decode cX11_order 28 = .ok (.aload_n 0, 1) := by decide +kernel
theorem dX11_order_29 : decode cX11_order 29 = .ok (.getfield 33, 3) := by decide +kernel
theorem dX11_order_32 : decode cX11_order 32 = .ok (.iconst 0, 1) := by decide +kernel
theorem dX11_order_33 : decode cX11_order 33 = .ok (.laload, 1) := by decide +kernel
theorem dX11_order_34 : decode cX11_order 34 = .ok (.lmul, 1) := by decide +kernel
theorem dX11_order_35 : decode cX11_order 35 = .ok (.lstore_n 3, 1) := by decide +kernel
