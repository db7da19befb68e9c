theorem dX11_order_36 : decode cX11_order 36 = .ok (.ldc2_w 66, 3) := by decide +kernel
theorem dX11_order_39 : decode cX11_order 39 = .ok (.aload_n 0, 1) := by decide +kernel
theorem dX11_order_40 : decode cX11_order 40 = .ok (.iconst 0, 1) := by decide +kernel
theorem dX11_order_41 : decode cX11_order 41 = .ok (.invokevirtual 83, 3) := by decide +kernel
theorem dX11_order_44 : decode cX11_order 44 = .ok (.lmul, 1) := by decide +kernel
theorem dX11_order_45 : decode cX11_order 45 = .ok (.lload_n 3, 1) := by decide +kernel
theorem dX11_order_46 : decode cX11_order 46 = .ok (.lsub, 1) := by decide +kernel
theorem dX11_order_47 : decode cX11_order 47 = .ok (.lstore 5, 2) := by decide +kernel
theorem dX11_order_49 : decode cX11_order 49 = .ok (.aload_n 0, 1) := by decide +kernel
theorem dX11_order_50 : decode cX11_order 50 = .ok (.lload 5, 2) := by decide +kernel
theorem dX11_order_52 : decode cX11_order 52 = .ok (.lconst 0, 1) := by decide +kernel
theorem dX11_order_53 : decode cX11_order 53 = .ok (.lcmp, 1) := by decide +kernel
theorem dX11_order_54 : decode cX11_order 54 = .ok (.ifCond .ne 7, 3) := by decide +kernel
theorem dX11_order_57 : decode cX11_order 57 = .ok (.iconst 1, 1) := by decide +kernel
theorem dX11_order_58 : decode cX11_order 58 = .ok (.goto 57, 3) := by decide +kernel
theorem dX11_order_61 : decode cX11_order 61 = .ok (.lload_n 3, 1) := by decide +kernel
theorem dX11_order_62 : decode cX11_order 62 = .ok (.lconst 0, 1) := by decide +kernel
theorem dX11_order_63 : decode cX11_order 63 = .ok (.lcmp, 1) := by decide +kernel
theorem dX11_order_64 : decode cX11_order 64 = .ok (.ifCond .ne 7, 3) := by decide +kernel
theorem dX11_order_67 : decode cX11_order 67 = .ok (.iconst 2, 1) := by decide +kernel
theorem dX11_order_68 : decode cX11_order 68 = .ok (.goto 47, 3) := by decide +kernel
theorem dX11_order_71 : decode cX11_order 71 = .ok (.ldc2_w 109, 3) := by decide +kernel
theorem dX11_order_74 : decode cX11_order 74 = .ok (.lload_n 3, 1) := by decide +kernel
theorem dX11_order_75 : decode cX11_order 75 = .ok (.lmul, 1) := by decide +kernel
theorem dX11_order_76 : decode cX11_order 76 = .ok (.lload 5, 2) := by decide +kernel
theorem dX11_order_78 : decode cX11_order 78 = .ok (.lcmp, 1) := by decide +kernel
theorem dX11_order_79 : decode cX11_order 79 = .ok (.ifCond .ne 7, 3) := by decide +kernel
theorem dX11_order_82 : decode cX11_order 82 = .ok (.iconst 3, 1) := by decide +kernel
theorem dX11_order_83 : decode cX11_order 83 = .ok (.goto 32, 3) := by decide +kernel
theorem dX11_order_86 : decode cX11_order 86 = .ok (.lload_n 3, 1) := by decide +kernel
theorem dX11_order_87 : decode cX11_order 87 = .ok (.lload 5, 2) := by decide +kernel
theorem dX11_order_89 : decode cX11_order 89 = .ok (.lcmp, 1) := by decide +kernel
theorem dX11_order_90 : decode cX11_order 90 = .ok (.ifCond .ne 7, 3) := by decide +kernel
theorem dX11_order_93 : decode cX11_order 93 = .ok (.iconst 4, 1) := by decide +kernel
theorem dX11_order_94 : decode cX11_order 94 = .ok (.goto 21, 3) := by decide +kernel
theorem dX11_order_97 : decode cX11_order 97 = .ok (.lload_n 3, 1) := by decide +kernel
theorem dX11_order_98 : decode cX11_order 98 = .ok (.ldc2_w 109, 3) := by decide +kernel
theorem dX11_order_101 : decode cX11_order 101 = .ok (.lload 5, 2) := by decide +kernel
theorem dX11_order_103 : decode cX11_order 103 = .ok (.lmul, 1) := by decide +kernel
theorem dX11_order_104 : decode cX11_order 104 = .ok (.lcmp, 1) := by decide +kernel
theorem dX11_order_105 : decode cX11_order 105 = .ok (.ifCond .ne 8, 3) := by decide +kernel
theorem dX11_order_108 : decode cX11_order 108 = .ok (.bipush 6, 2) := by decide +kernel
theorem dX11_order_110 : decode cX11_order 110 = .ok (.goto 5, 3) := by decide +kernel
theorem dX11_order_113 : decode cX11_order 113 = .ok (.ldc 138, 2) := by decide +kernel
theorem dX11_order_115 : decode cX11_order 115 = .ok (.invokevirtual 61, 3) := by decide +kernel
theorem dX11_order_118 : decode cX11_order 118 = .ok (.ireturn, 1) := by decide +kernel
theorem dX11_axis_0 : decode cX11_axis 0 = .ok (.iload_n 1, 1) := by decide +kernel
theorem dX11_axis_1 : decode cX11_axis 1 = .ok (.invokestatic 92, 3) := by decide +kernel
theorem dX11_axis_4 : decode cX11_axis 4 = .ok (.ifCond .eq 15, 3) := by decide +kernel
theorem dX11_axis_7 : decode cX11_axis 7 = .ok (.iload_n 2, 1) := by decide +kernel
theorem dX11_axis_8 : decode cX11_axis 8 = .ok (.i2l, 1) := by decide +kernel
theorem dX11_axis_9 : decode cX11_axis 9 = .ok (.lconst 0, 1) := by decide +kernel
theorem dX11_axis_10 : decode cX11_axis 10 = .ok (.ldc2_w 54, 3) := by decide +kernel
theorem dX11_axis_13 : decode cX11_axis 13 = .ok (.invokestatic 46, 3) := by decide +kernel
theorem dX11_axis_16 : decode cX11_axis 16 = .ok (.ifCond .ne 6, 3) := by decide +kernel
theorem dX11_axis_19 : decode cX11_axis 19 = .ok (.ldc 56, 2) := by decide +kernel
theorem dX11_axis_21 : decode cX11_axis 21 = .ok (.ireturn, 1) := by decide +kernel
theorem dX11_axis_22 : decode cX11_axis 22 = .ok (.aload_n 0, 1) := by decide +kernel
theorem dX11_axis_23 : decode cX11_axis 23 = .ok (.iload_n 1, 1) := by decide +kernel
theorem dX11_axis_24 : decode cX11_axis 24 = .ok (.invokevirtual 187, 3) := by decide +kernel
theorem dX11_axis_27 : decode cX11_axis 27 = .ok (.istore_n 3, 1) := by decide +kernel
theorem dX11_axis_28 : decode cX11_axis 28 = .ok (.iload_n 3, 1) := by decide +kernel
theorem dX11_axis_29 : decode cX11_axis 29 = .ok (.ifCond .eq 5, 3) := by decide +kernel
theorem dX11_axis_32 : decode cX11_axis 32 = .ok (.iload_n 3, 1) := by decide +kernel
theorem dX11_axis_33 : decode cX11_axis 33 = .ok (.ireturn, 1) := by decide +kernel
theorem dX11_axis_34 : decode cX11_axis 34 = .ok (.aload_n 0, 1) := by decide +kernel
theorem dX11_axis_35 : decode cX11_axis 35 = .ok (.getfield 33, 3) := by decide +kernel
theorem dX11_axis_38 : decode cX11_axis 38 = .ok (.iconst 1, 1) := by decide +kernel
theorem dX11_axis_39 : decode cX11_axis 39 = .ok (.laload, 1) := by decide +kernel
theorem dX11_axis_40 : decode cX11_axis 40 = .ok (.lstore 4, 2) := by decide +kernel
theorem dX11_axis_42 : decode cX11_axis 42 = .ok (.aload_n 0, 1) := by decide +kernel
theorem dX11_axis_43 : decode cX11_axis 43 = .ok (.getfield 33, 3) := by decide +kernel
theorem dX11_axis_46 : decode cX11_axis 46 = .ok (.iconst 2, 1) := by decide +kernel
theorem dX11_axis_47 : decode cX11_axis 47 = .ok (.laload, 1) := by decide +kernel
theorem dX11_axis_48 : decode cX11_axis 48 = .ok (.lstore 6, 2) := by decide +kernel
theorem dX11_axis_50 : decode cX11_axis 50 = .ok (.aload_n 0, 1) := by decide +kernel
theorem dX11_axis_51 : decode cX11_axis 51 = .ok (.getfield 33, 3) := by decide +kernel
theorem dX11_axis_54 : decode cX11_axis 54 = .ok (.iconst 3, 1) := by decide +kernel
theorem dX11_axis_55 : decode cX11_axis 55 = .ok (.laload, 1) := by decide +kernel
theorem dX11_axis_56 : decode cX11_axis 56 = .ok (.lstore 8, 2) := by decide +kernel
theorem dX11_axis_58 : decode cX11_axis 58 = .ok (.lload 4, 2) := by decide +kernel
theorem dX11_axis_60 : decode cX11_axis 60 = .ok (.lload 6, 2) := by decide +kernel
theorem dX11_axis_62 : decode cX11_axis 62 = .ok (.invokestatic 72, 3) := by decide +kernel
theorem dX11_axis_65 : decode cX11_axis 65 = .ok (.lload 8, 2) := by decide +kernel
theorem dX11_axis_67 : decode cX11_axis 67 = .ok (.invokestatic 72, 3) := by decide +kernel
theorem dX11_axis_70 : decode cX11_axis 70 = .ok (.lstore 10, 2) := by decide +kernel
theorem dX11_axis_72 : decode cX11_axis 72 = .ok (.lload 10, 2) := by decide +kernel
theorem dX11_axis_74 : decode cX11_axis 74 = .ok (.lconst 0, 1) := by decide +kernel
theorem dX11_axis_75 : decode cX11_axis 75 = .ok (.lcmp, 1) := by decide +kernel
theorem dX11_axis_76 : decode cX11_axis 76 = .ok (.ifCond .ne 10, 3) := by decide +kernel
theorem dX11_axis_79 : decode cX11_axis 79 = .ok (.aload_n 0, 1) := by decide +kernel
theorem dX11_axis_80 : decode cX11_axis 80 = .ok (.ldc 138, 2) := by decide +kernel
theorem dX11_axis_82 : decode cX11_axis 82 = .ok (.invokevirtual 61, 3) := by decide +kernel
theorem dX11_axis_85 : decode cX11_axis 85 = .ok (.ireturn, 1) := by decide +kernel
theorem dX11_axis_86 : decode cX11_axis 86 = .ok (.lload 4, 2) := by decide +kernel
theorem dX11_axis_88 : decode cX11_axis 88 = .ok (.lconst 0, 1) := by decide +kernel
theorem dX11_axis_89 : decode cX11_axis 89 = .ok (.lcmp, 1) := by decide +kernel
theorem dX11_axis_90 : decode cX11_axis 90 = .ok (.ifCond .lt 31, 3) := by decide +kernel
theorem dX11_axis_93 : decode cX11_axis 93 = .ok (.lload 4, 2) := by decide +kernel
theorem dX11_axis_95 : decode cX11_axis 95 = .ok (.lconst 0, 1) := by decide +kernel
theorem dX11_axis_96 : decode cX11_axis 96 = .ok (.lcmp, 1) := by decide +kernel
theorem dX11_axis_97 : decode cX11_axis 97 = .ok (.ifCond .ne 28, 3) := by decide +kernel
theorem dX11_axis_100 : decode cX11_axis 100 = .ok (.lload 6, 2) := by decide +kernel
theorem dX11_axis_102 : decode cX11_axis 102 = .ok (.lconst 0, 1) := by decide +kernel
theorem dX11_axis_103 : decode cX11_axis 103 = .ok (.lcmp, 1) := by decide +kernel
theorem dX11_axis_104 : decode cX11_axis 104 = .ok (.ifCond .lt 17, 3) := by decide +kernel
theorem dX11_axis_107 : decode cX11_axis 107 = .ok (.lload 6, 2) := by decide +kernel
theorem dX11_axis_109 : decode cX11_axis 109 = .ok (.lconst 0, 1) := by decide +kernel
theorem dX11_axis_110 : decode cX11_axis 110 = .ok (.lcmp, 1) := by decide +kernel
theorem dX11_axis_111 : decode cX11_axis 111 = .ok (.ifCond .ne 14, 3) := by decide +kernel
theorem dX11_axis_114 : decode cX11_axis 114 = .ok (.lload 8, 2) := by decide +kernel
theorem dX11_axis_116 : decode cX11_axis 116 = .ok (.lconst 0, 1) := by decide +kernel
theorem dX11_axis_117 : decode cX11_axis 117 = .ok (.lcmp, 1) := by decide +kernel
theorem dX11_axis_118 : decode cX11_axis 118 = .ok (.ifCond .ge 7, 3) := by decide +kernel
theorem dX11_axis_121 : decode cX11_axis 121 = .ok (.iconst 1, 1) := by decide +kernel
theorem dX11_axis_122 : decode cX11_axis 122 = .ok (.goto 4, 3) := by decide +kernel
theorem dX11_axis_125 : decode cX11_axis 125 = .ok (.iconst 0, 1) := by decide +kernel
theorem dX11_axis_126 : decode cX11_axis 126 = .ok (.istore 12, 2) := by decide +kernel
theorem dX11_axis_128 : decode cX11_axis 128 = .ok (.aload_n 0, 1) := by decide +kernel
theorem dX11_axis_129 : decode cX11_axis 129 = .ok (.aload_n 0, 1) := by decide +kernel
theorem dX11_axis_130 : decode cX11_axis 130 = .ok (.getfield 33, 3) := by decide +kernel
theorem dX11_axis_133 : decode cX11_axis 133 = .ok (.iconst 1, 1) := by decide +kernel
theorem dX11_axis_134 : decode cX11_axis 134 = .ok (.iload_n 2, 1) := by decide +kernel
theorem dX11_axis_135 : decode cX11_axis 135 = .ok (.iadd, 1) := by decide +kernel
theorem dX11_axis_136 : decode cX11_axis 136 = .ok (.laload, 1) := by decide +kernel
theorem dX11_axis_137 : decode cX11_axis 137 = .ok (.iload 12, 2) := by decide +kernel
theorem dX11_axis_139 : decode cX11_axis 139 = .ok (.ifCond .eq 9, 3) := by decide +kernel
theorem dX11_axis_142 : decode cX11_axis 142 = .ok (.lload 10, 2) := by decide +kernel
theorem dX11_axis_144 : decode cX11_axis 144 = .ok (.lneg, 1) := by decide +kernel
theorem dX11_axis_145 : decode cX11_axis 145 = .ok (.goto 5, 3) := by decide +kernel
theorem dX11_axis_148 : decode cX11_axis 148 = .ok (.lload 10, 2) := by decide +kernel
theorem dX11_axis_150 : decode cX11_axis 150 = .ok (.ldiv, 1) := by decide +kernel
theorem dX11_axis_151 : decode cX11_axis 151 = .ok (.l2i, 1) := by decide +kernel
theorem dX11_axis_152 : decode cX11_axis 152 = .ok (.invokevirtual 61, 3) := by decide +kernel
theorem dX11_axis_155 : decode cX11_axis 155 = .ok (.ireturn, 1) := by decide +kernel
theorem dX11_alike_0 : decode cX11_alike 0 = .ok (.iload_n 1, 1) := by decide +kernel
theorem dX11_alike_1 : decode cX11_alike 1 = .ok (.invokestatic 92, 3) := by decide +kernel
theorem dX11_alike_4 : decode cX11_alike 4 = .ok (.ifCond .eq 10, 3) := by decide +kernel
theorem dX11_alike_7 : decode cX11_alike 7 = .ok (.iload_n 2, 1) := by decide +kernel
theorem dX11_alike_8 : decode cX11_alike 8 = .ok (.invokestatic 92, 3) := by decide +kernel
theorem dX11_alike_11 : decode cX11_alike 11 = .ok (.ifCond .ne 6, 3) := by decide +kernel
theorem dX11_alike_14 : decode cX11_alike 14 = .ok (.ldc 56, 2) := by decide +kernel
theorem dX11_alike_16 : decode cX11_alike 16 = .ok (.ireturn, 1) := by decide +kernel
theorem dX11_alike_17 : decode cX11_alike 17 = .ok (.aload_n 0, 1) := by decide +kernel
theorem dX11_alike_18 : decode cX11_alike 18 = .ok (.getfield 7, 3) := by decide +kernel
theorem dX11_alike_21 : decode cX11_alike 21 = .ok (.iload_n 1, 1) := by decide +kernel
theorem dX11_alike_22 : decode cX11_alike 22 = .ok (.baload, 1) := by decide +kernel
theorem dX11_alike_23 : decode cX11_alike 23 = .ok (.ifCond .eq 12, 3) := by decide +kernel
theorem dX11_alike_26 : decode cX11_alike 26 = .ok (.aload_n 0, 1) := by decide +kernel
theorem dX11_alike_27 : decode cX11_alike 27 = .ok (.getfield 7, 3) := by decide +kernel
theorem dX11_alike_30 : decode cX11_alike 30 = .ok (.iload_n 2, 1) := by decide +kernel
theorem dX11_alike_31 : decode cX11_alike 31 = .ok (.baload, 1) := by decide +kernel
theorem dX11_alike_32 : decode cX11_alike 32 = .ok (.ifCond .ne 9, 3) := by decide +kernel
theorem dX11_alike_35 : decode cX11_alike 35 = .ok (.aload_n 0, 1) := by decide +kernel
theorem dX11_alike_36 : decode cX11_alike 36 = .ok (.iconst 1, 1) := by decide +kernel
theorem dX11_alike_37 : decode cX11_alike 37 = .ok (.invokevirtual 57, 3) := by decide +kernel
theorem dX11_alike_40 : decode cX11_alike 40 = .ok (.ireturn, 1) := by decide +kernel
theorem dX11_alike_41 : decode cX11_alike 41 = .ok (.aload_n 0, 1) := by decide +kernel
theorem dX11_alike_42 : decode cX11_alike 42 = .ok (.iconst 0, 1) := by decide +kernel
theorem dX11_alike_43 : decode cX11_alike 43 = .ok (.iload_n 1, 1) := by decide +kernel
theorem dX11_alike_44 : decode cX11_alike 44 = .ok (.invokevirtual 111, 3) := by decide +kernel
theorem dX11_alike_47 : decode cX11_alike 47 = .ok (.aload_n 0, 1) := by decide +kernel
theorem dX11_alike_48 : decode cX11_alike 48 = .ok (.iconst 4, 1) := by decide +kernel
theorem dX11_alike_49 : decode cX11_alike 49 = .ok (.iload_n 2, 1) := by decide +kernel
theorem dX11_alike_50 : decode cX11_alike 50 = .ok (.invokevirtual 111, 3) := by decide +kernel
theorem dX11_alike_53 : decode cX11_alike 53 = .ok (.aload_n 0, 1) := by decide +kernel
theorem dX11_alike_54 : decode cX11_alike 54 = .ok (.iconst 0, 1) := by decide +kernel
theorem dX11_alike_55 : decode cX11_alike 55 = .ok (.invokevirtual 76, 3) := by decide +kernel
theorem dX11_alike_58 : decode cX11_alike 58 = .ok (.ifCond .ne 11, 3) := by decide +kernel
theorem dX11_alike_61 : decode cX11_alike 61 = .ok (.aload_n 0, 1) := by decide +kernel
theorem dX11_alike_62 : decode cX11_alike 62 = .ok (.iconst 4, 1) := by decide +kernel
theorem dX11_alike_63 : decode cX11_alike 63 = .ok (.invokevirtual 76, 3) := by decide +kernel
theorem dX11_alike_66 : decode cX11_alike 66 = .ok (.ifCond .eq 6, 3) := by decide +kernel
theorem dX11_alike_69 : decode cX11_alike 69 = .ok (.ldc 153, 2) := by decide +kernel
theorem dX11_alike_71 : decode cX11_alike 71 = .ok (.ireturn, 1) := by decide +kernel
theorem dX11_alike_72 : decode cX11_alike 72 = .ok (.iconst 1, 1) := by decide +kernel
theorem dX11_alike_73 : decode cX11_alike 73 = .ok (.istore_n 3, 1) := by decide +kernel
theorem dX11_alike_74 : decode cX11_alike 74 = .ok (.iconst 0, 1) := by decide +kernel
theorem dX11_alike_75 : decode cX11_alike 75 = .ok (.istore 4, 2) := by decide +kernel
theorem dX11_alike_77 : decode cX11_alike 77 = .ok (.iload 4, 2) := by decide +kernel
theorem dX11_alike_79 : decode cX11_alike 79 = .ok (.iconst 4, 1) := by decide +kernel
theorem dX11_alike_80 : decode cX11_alike 80 = .ok (.if_icmp .ge 77, 3) := by decide +kernel
theorem dX11_alike_83 : decode cX11_alike 83 = .ok (.iconst 0, 1) := by decide +kernel
theorem dX11_alike_84 : decode cX11_alike 84 = .ok (.istore 5, 2) := by decide +kernel
theorem dX11_alike_86 : decode cX11_alike 86 = .ok (.iload 5, 2) := by decide +kernel
theorem dX11_alike_88 : decode cX11_alike 88 = .ok (.iload 4, 2) := by decide +kernel
theorem dX11_alike_90 : decode cX11_alike 90 = .ok (.if_icmp .ge 61, 3) := by decide +kernel
theorem dX11_alike_93 : decode cX11_alike 93 = .ok (.iload_n 3, 1) := by decide +kernel
theorem dX11_alike_94 : decode cX11_alike 94 = .ok (.ifCond .eq 49, 3) := by decide +kernel
theorem dX11_alike_97 : decode cX11_alike 97 = .ok (.aload_n 0, 1) := by decide +kernel
theorem dX11_alike_98 : decode cX11_alike 98 = .ok (.getfield 33, 3) := by decide +kernel
theorem dX11_alike_101 : decode cX11_alike 101 = .ok (.iconst 0, 1) := by decide +kernel
theorem dX11_alike_102 : decode cX11_alike 102 = .ok (.iload 4, 2) := by decide +kernel
theorem dX11_alike_104 : decode cX11_alike 104 = .ok (.iadd, 1) := by decide +kernel
theorem dX11_alike_105 : decode cX11_alike 105 = .ok (.laload, 1) := by decide +kernel
theorem dX11_alike_106 : decode cX11_alike 106 = .ok (.aload_n 0, 1) := by decide +kernel
theorem dX11_alike_107 : decode cX11_alike 107 = .ok (.getfield 33, 3) := by decide +kernel
theorem dX11_alike_110 : decode cX11_alike 110 = .ok (.iconst 4, 1) := by decide +kernel
theorem dX11_alike_111 : decode cX11_alike 111 = .ok (.iload 5, 2) := by decide +kernel
theorem dX11_alike_113 : decode cX11_alike 113 = .ok (.iadd, 1) := by decide +kernel
theorem dX11_alike_114 : decode cX11_alike 114 = .ok (.laload, 1) := by decide +kernel
theorem dX11_alike_115 : decode cX11_alike 115 = .ok (.lmul, 1) := by decide +kernel
theorem dX11_alike_116 : decode cX11_alike 116 = .ok (.aload_n 0, 1) := by decide +kernel
theorem dX11_alike_117 : decode cX11_alike 117 = .ok (.getfield 33, 3) := by decide +kernel
theorem dX11_alike_120 : decode cX11_alike 120 = .ok (.iconst 0, 1) := by decide +kernel
theorem dX11_alike_121 : decode cX11_alike 121 = .ok (.iload 5, 2) := by decide +kernel
theorem dX11_alike_123 : decode cX11_alike 123 = .ok (.iadd, 1) := by decide +kernel
theorem dX11_alike_124 : decode cX11_alike 124 = .ok (.laload, 1) := by decide +kernel
theorem dX11_alike_125 : decode cX11_alike 125 = .ok (.aload_n 0, 1) := by decide +kernel
theorem dX11_alike_126 : decode cX11_alike 126 = .ok (.getfield 33, 3) := by decide +kernel
theorem dX11_alike_129 : decode cX11_alike 129 = .ok (.iconst 4, 1) := by decide +kernel
theorem dX11_alike_130 : decode cX11_alike 130 = .ok (.iload 4, 2) := by decide +kernel
theorem dX11_alike_132 : decode cX11_alike 132 = .ok (.iadd, 1) := by decide +kernel
theorem dX11_alike_133 : decode cX11_alike 133 = .ok (.laload, 1) := by decide +kernel
theorem dX11_alike_134 : decode cX11_alike 134 = .ok (.lmul, 1) := by decide +kernel
theorem dX11_alike_135 : decode cX11_alike 135 = .ok (.lcmp, 1) := by decide +kernel
theorem dX11_alike_136 : decode cX11_alike 136 = .ok (.ifCond .ne 7, 3) := by decide +kernel
theorem dX11_alike_139 : decode cX11_alike 139 = .ok (.iconst 1, 1) := by decide +kernel
theorem dX11_alike_140 : decode cX11_alike 140 = .ok (.goto 4, 3) := by decide +kernel
theorem dX11_alike_143 : decode cX11_alike 143 = .ok (.iconst 0, 1) := by decide +kernel
theorem dX11_alike_144 : decode cX11_alike 144 = .ok (.istore_n 3, 1) := by decide +kernel
theorem dX11_alike_145 : decode cX11_alike 145 = .ok (.iinc 5 1, 3) := by decide +kernel
theorem dX11_alike_148 : decode cX11_alike 148 = .ok (.goto (-62), 3) := by decide +kernel
theorem dX11_alike_151 : decode cX11_alike 151 = .ok (.iinc 4 1, 3) := by decide +kernel
theorem dX11_alike_154 : decode cX11_alike 154 = .ok (.goto (-77), 3) := by decide +kernel
theorem dX11_alike_157 : decode cX11_alike 157 = .ok (.aload_n 0, 1) := by decide +kernel
theorem dX11_alike_158 : decode cX11_alike 158 = .ok (.iload_n 3, 1) := by decide +kernel
theorem dX11_alike_159 : decode cX11_alike 159 = .ok (.ifCond .eq 7, 3) := by decide +kernel
theorem dX11_alike_162 : decode cX11_alike 162 = .ok (.iconst 1, 1) := by decide +kernel
theorem dX11_alike_163 : decode cX11_alike 163 = .ok (.goto 4, 3) := by decide +kernel
theorem dX11_alike_166 : decode cX11_alike 166 = .ok (.iconst 0, 1) := by decide +kernel
theorem dX11_alike_167 : decode cX11_alike 167 = .ok (.invokevirtual 61, 3) := by decide +kernel
theorem dX11_alike_170 : decode cX11_alike 170 = .ok (.ireturn, 1) := by decide +kernel
theorem dX11_indexOf_0 : decode cX11_indexOf 0 = .ok (.aload_n 0, 1) := by decide +kernel
theorem dX11_indexOf_1 : decode cX11_indexOf 1 = .ok (.iconst 0, 1) := by decide +kernel
theorem dX11_indexOf_2 : decode cX11_indexOf 2 = .ok (.invokevirtual 79, 3) := by decide +kernel
theorem dX11_indexOf_5 : decode cX11_indexOf 5 = .ok (.lstore_n 1, 1) := by decide +kernel
theorem dX11_indexOf_6 : decode cX11_indexOf 6 = .ok (.aload_n 0, 1) := by decide +kernel
theorem dX11_indexOf_7 : decode cX11_indexOf 7 = .ok (.iconst 0, 1) := by decide +kernel
theorem dX11_indexOf_8 : decode cX11_indexOf 8 = .ok (.invokevirtual 83, 3) := by decide +kernel
theorem dX11_indexOf_11 : decode cX11_indexOf 11 = .ok (.lload_n 1, 1) := by decide +kernel
theorem dX11_indexOf_12 : decode cX11_indexOf 12 = .ok (.lload_n 1, 1) := by decide +kernel
theorem dX11_indexOf_13 : decode cX11_indexOf 13 = .ok (.lmul, 1) := by decide +kernel
theorem dX11_indexOf_14 : decode cX11_indexOf 14 = .ok (.ldiv, 1) := by decide +kernel
theorem dX11_indexOf_15 : decode cX11_indexOf 15 = .ok (.lstore_n 3, 1) := by decide +kernel
theorem dX11_indexOf_16 : decode cX11_indexOf 16 = .ok (.lload_n 3, 1) := by decide +kernel
theorem dX11_indexOf_17 : decode cX11_indexOf 17 = .ok (.ldc2_w 54, 3) := by decide +kernel
theorem dX11_indexOf_20 : decode cX11_indexOf 20 = .ok (.lrem, 1) := by decide +kernel
theorem dX11_indexOf_21 : decode cX11_indexOf 21 = .ok (.lconst 0, 1) := by decide +kernel
theorem dX11_indexOf_22 : decode cX11_indexOf 22 = .ok (.lcmp, 1) := by decide +kernel
theorem dX11_indexOf_23 : decode cX11_indexOf 23 = .ok (.ifCond .ne 12, 3) := by decide +kernel
theorem dX11_indexOf_26 : decode cX11_indexOf 26 = .ok (.lload_n 3, 1) := by decide +kernel
theorem dX11_indexOf_27 : decode cX11_indexOf 27 = .ok (.ldc2_w 54, 3) := by decide +kernel
theorem dX11_indexOf_30 : decode cX11_indexOf 30 = .ok (.ldiv, 1) := by decide +kernel
theorem dX11_indexOf_31 : decode cX11_indexOf 31 = .ok (.lstore_n 3, 1) := by decide +kernel
theorem dX11_indexOf_32 : decode cX11_indexOf 32 = .ok (.goto (-16), 3) := by decide +kernel
theorem dX11_indexOf_35 : decode cX11_indexOf 35 = .ok (.lload_n 3, 1) := by decide +kernel
theorem dX11_indexOf_36 : decode cX11_indexOf 36 = .ok (.lreturn, 1) := by decide +kernel
theorem dX11_index_0 : decode cX11_index 0 = .ok (.iload_n 1, 1) := by decide +kernel
theorem dX11_index_1 : decode cX11_index 1 = .ok (.invokestatic 92, 3) := by decide +kernel
theorem dX11_index_4 : decode cX11_index 4 = .ok (.ifCond .ne 6, 3) := by decide +kernel
theorem dX11_index_7 : decode cX11_index 7 = .ok (.ldc 56, 2) := by decide +kernel
theorem dX11_index_9 : decode cX11_index 9 = .ok (.ireturn, 1) := by decide +kernel
theorem dX11_index_10 : decode cX11_index 10 = .ok (.aload_n 0, 1) := by decide +kernel
theorem dX11_index_11 : decode cX11_index 11 = .ok (.iload_n 1, 1) := by decide +kernel
theorem dX11_index_12 : decode cX11_index 12 = .ok (.invokevirtual 187, 3) := by decide +kernel
theorem dX11_index_15 : decode cX11_index 15 = .ok (.istore_n 2, 1) := by decide +kernel
theorem dX11_index_16 : decode cX11_index 16 = .ok (.iload_n 2, 1) := by decide +kernel
theorem dX11_index_17 : decode cX11_index 17 = .ok (.ifCond .eq 7, 3) := by decide +kernel
theorem dX11_index_20 : decode cX11_index 20 = .ok (.iload_n 2, 1) := by decide +kernel
theorem dX11_index_21 : decode cX11_index 21 = .ok (.goto 12, 3) := by decide +kernel
theorem dX11_index_24 : decode cX11_index 24 = .ok (.aload_n 0, 1) := by decide +kernel
theorem dX11_index_25 : decode cX11_index 25 = .ok (.aload_n 0, 1) := by decide +kernel
theorem dX11_index_26 : decode cX11_index 26 = .ok (.invokevirtual 202, 3) := by decide +kernel
theorem dX11_index_29 : decode cX11_index 29 = .ok (.l2i, 1) := by decide +kernel
theorem dX11_index_30 : decode cX11_index 30 = .ok (.invokevirtual 61, 3) := by decide +kernel
theorem dX11_index_33 : decode cX11_index 33 = .ok (.ireturn, 1) := by decide +kernel
theorem dX11_isCommon_0 : decode cX11_isCommon 0 = .ok (.iconst 0, 1) := by decide +kernel
theorem dX11_isCommon_1 : decode cX11_isCommon 1 = .ok (.istore 9, 2) := by decide +kernel
theorem dX11_isCommon_3 : decode cX11_isCommon 3 = .ok (.iload 9, 2) := by decide +kernel
theorem dX11_isCommon_5 : decode cX11_isCommon 5 = .ok (.iconst 3, 1) := by decide +kernel
theorem dX11_isCommon_6 : decode cX11_isCommon 6 = .ok (.if_icmp .ge 54, 3) := by decide +kernel
theorem dX11_isCommon_9 : decode cX11_isCommon 9 = .ok (.aload_n 0, 1) := by decide +kernel
theorem dX11_isCommon_10 : decode cX11_isCommon 10 = .ok (.getfield 36, 3) := by decide +kernel
theorem dX11_isCommon_13 : decode cX11_isCommon 13 = .ok (.iload 9, 2) := by decide +kernel
theorem dX11_isCommon_15 : decode cX11_isCommon 15 = .ok (.laload, 1) := by decide +kernel
theorem dX11_isCommon_16 : decode cX11_isCommon 16 = .ok (.lload_n 1, 1) := by decide +kernel
theorem dX11_isCommon_17 : decode cX11_isCommon 17 = .ok (.lmul, 1) := by decide +kernel
theorem dX11_isCommon_18 : decode cX11_isCommon 18 = .ok (.aload_n 0, 1) := by decide +kernel
theorem dX11_isCommon_19 : decode cX11_isCommon 19 = .ok (.getfield 36, 3) := by decide +kernel
theorem dX11_isCommon_22 : decode cX11_isCommon 22 = .ok (.iconst 3, 1) := by decide +kernel
theorem dX11_isCommon_23 : decode cX11_isCommon 23 = .ok (.iload 9, 2) := by decide +kernel
theorem dX11_isCommon_25 : decode cX11_isCommon 25 = .ok (.iadd, 1) := by decide +kernel
theorem dX11_isCommon_26 : decode cX11_isCommon 26 = .ok (.laload, 1) := by decide +kernel
theorem dX11_isCommon_27 : decode cX11_isCommon 27 = .ok (.lload_n 3, 1) := by decide +kernel
theorem dX11_isCommon_28 : decode cX11_isCommon 28 = .ok (.lmul, 1) := by decide +kernel
theorem dX11_isCommon_29 : decode cX11_isCommon 29 = .ok (.ladd, 1) := by decide +kernel
theorem dX11_isCommon_30 : decode cX11_isCommon 30 = .ok (.aload_n 0, 1) := by decide +kernel
theorem dX11_isCommon_31 : decode cX11_isCommon 31 = .ok (.getfield 36, 3) := by decide +kernel
theorem dX11_isCommon_34 : decode cX11_isCommon 34 = .ok (.bipush 6, 2) := by decide +kernel
theorem dX11_isCommon_36 : decode cX11_isCommon 36 = .ok (.iload 9, 2) := by decide +kernel
theorem dX11_isCommon_38 : decode cX11_isCommon 38 = .ok (.iadd, 1) := by decide +kernel
theorem dX11_isCommon_39 : decode cX11_isCommon 39 = .ok (.laload, 1) := by decide +kernel
theorem dX11_isCommon_40 : decode cX11_isCommon 40 = .ok (.lload 5, 2) := by decide +kernel
theorem dX11_isCommon_42 : decode cX11_isCommon 42 = .ok (.lmul, 1) := by decide +kernel
theorem dX11_isCommon_43 : decode cX11_isCommon 43 = .ok (.ladd, 1) := by decide +kernel
theorem dX11_isCommon_44 : decode cX11_isCommon 44 = .ok (.lload 7, 2) := by decide +kernel
theorem dX11_isCommon_46 : decode cX11_isCommon 46 = .ok (.lrem, 1) := by decide +kernel
theorem dX11_isCommon_47 : decode cX11_isCommon 47 = .ok (.lconst 0, 1) := by decide +kernel
theorem dX11_isCommon_48 : decode cX11_isCommon 48 = .ok (.lcmp, 1) := by decide +kernel
theorem dX11_isCommon_49 : decode cX11_isCommon 49 = .ok (.ifCond .eq 5, 3) := by decide +kernel
theorem dX11_isCommon_52 : decode cX11_isCommon 52 = .ok (.iconst 0, 1) := by decide +kernel
theorem dX11_isCommon_53 : decode cX11_isCommon 53 = .ok (.ireturn, 1) := by decide +kernel
theorem dX11_isCommon_54 : decode cX11_isCommon 54 = .ok (.iinc 9 1, 3) := by decide +kernel
theorem dX11_isCommon_57 : decode cX11_isCommon 57 = .ok (.goto (-54), 3) := by decide +kernel
theorem dX11_isCommon_60 : decode cX11_isCommon 60 = .ok (.iconst 1, 1) := by decide +kernel
theorem dX11_isCommon_61 : decode cX11_isCommon 61 = .ok (.ireturn, 1) := by decide +kernel
theorem dX11_cell_0 : decode cX11_cell 0 = .ok (.iload_n 1, 1) := by decide +kernel
theorem dX11_cell_1 : decode cX11_cell 1 = .ok (.invokestatic 92, 3) := by decide +kernel
theorem dX11_cell_4 : decode cX11_cell 4 = .ok (.ifCond .eq 15, 3) := by decide +kernel
theorem dX11_cell_7 : decode cX11_cell 7 = .ok (.iload_n 2, 1) := by decide +kernel
theorem dX11_cell_8 : decode cX11_cell 8 = .ok (.i2l, 1) := by decide +kernel
theorem dX11_cell_9 : decode cX11_cell 9 = .ok (.lconst 0, 1) := by decide +kernel
theorem dX11_cell_10 : decode cX11_cell 10 = .ok (.ldc2_w 206, 3) := by decide +kernel
theorem dX11_cell_13 : decode cX11_cell 13 = .ok (.invokestatic 46, 3) := by decide +kernel
theorem dX11_cell_16 : decode cX11_cell 16 = .ok (.ifCond .ne 6, 3) := by decide +kernel
theorem dX11_cell_19 : decode cX11_cell 19 = .ok (.ldc 56, 2) := by decide +kernel
theorem dX11_cell_21 : decode cX11_cell 21 = .ok (.ireturn, 1) := by decide +kernel
theorem dX11_cell_22 : decode cX11_cell 22 = .ok (.aload_n 0, 1) := by decide +kernel
theorem dX11_cell_23 : decode cX11_cell 23 = .ok (.iload_n 1, 1) := by decide +kernel
theorem dX11_cell_24 : decode cX11_cell 24 = .ok (.invokevirtual 187, 3) := by decide +kernel
theorem dX11_cell_27 : decode cX11_cell 27 = .ok (.istore_n 3, 1) := by decide +kernel
theorem dX11_cell_28 : decode cX11_cell 28 = .ok (.iload_n 3, 1) := by decide +kernel
theorem dX11_cell_29 : decode cX11_cell 29 = .ok (.ifCond .eq 5, 3) := by decide +kernel
theorem dX11_cell_32 : decode cX11_cell 32 = .ok (.iload_n 3, 1) := by decide +kernel
theorem dX11_cell_33 : decode cX11_cell 33 = .ok (.ireturn, 1) := by decide +kernel
theorem dX11_cell_34 : decode cX11_cell 34 = .ok (.aload_n 0, 1) := by decide +kernel
theorem dX11_cell_35 : decode cX11_cell 35 = .ok (.invokevirtual 202, 3) := by decide +kernel
theorem dX11_cell_38 : decode cX11_cell 38 = .ok (.ldc2_w 208, 3) := by decide +kernel
theorem dX11_cell_41 : decode cX11_cell 41 = .ok (.lcmp, 1) := by decide +kernel
theorem dX11_cell_42 : decode cX11_cell 42 = .ok (.ifCond .le 6, 3) := by decide +kernel
theorem dX11_cell_45 : decode cX11_cell 45 = .ok (.ldc 99, 2) := by decide +kernel
theorem dX11_cell_47 : decode cX11_cell 47 = .ok (.ireturn, 1) := by decide +kernel
theorem dX11_cell_48 : decode cX11_cell 48 = .ok (.ldc2_w 66, 3) := by decide +kernel
theorem dX11_cell_51 : decode cX11_cell 51 = .ok (.aload_n 0, 1) := by decide +kernel
theorem dX11_cell_52 : decode cX11_cell 52 = .ok (.iconst 0, 1) := by decide +kernel
theorem dX11_cell_53 : decode cX11_cell 53 = .ok (.invokevirtual 83, 3) := by decide +kernel
theorem dX11_cell_56 : decode cX11_cell 56 = .ok (.lmul, 1) := by decide +kernel
theorem dX11_cell_57 : decode cX11_cell 57 = .ok (.lstore 4, 2) := by decide +kernel
theorem dX11_cell_59 : decode cX11_cell 59 = .ok (.lload 4, 2) := by decide +kernel
theorem dX11_cell_61 : decode cX11_cell 61 = .ok (.lstore 6, 2) := by decide +kernel
theorem dX11_cell_63 : decode cX11_cell 63 = .ok (.iconst 0, 1) := by decide +kernel
theorem dX11_cell_64 : decode cX11_cell 64 = .ok (.istore 8, 2) := by decide +kernel
theorem dX11_cell_66 : decode cX11_cell 66 = .ok (.iload 8, 2) := by decide +kernel
theorem dX11_cell_68 : decode cX11_cell 68 = .ok (.bipush 9, 2) := by decide +kernel
theorem dX11_cell_70 : decode cX11_cell 70 = .ok (.if_icmp .ge 42, 3) := by decide +kernel
theorem dX11_cell_73 : decode cX11_cell 73 = .ok (.aload_n 0, 1) := by decide +kernel
theorem dX11_cell_74 : decode cX11_cell 74 = .ok (.getfield 36, 3) := by decide +kernel
theorem dX11_cell_77 : decode cX11_cell 77 = .ok (.iload 8, 2) := by decide +kernel
theorem dX11_cell_79 : decode cX11_cell 79 = .ok (.aload_n 0, 1) := by decide +kernel
theorem dX11_cell_80 : decode cX11_cell 80 = .ok (.iload 8, 2) := by decide +kernel
theorem dX11_cell_82 : decode cX11_cell 82 = .ok (.iconst 3, 1) := by decide +kernel
theorem dX11_cell_83 : decode cX11_cell 83 = .ok (.idiv, 1) := by decide +kernel
theorem dX11_cell_84 : decode cX11_cell 84 = .ok (.iload 8, 2) := by decide +kernel
theorem dX11_cell_86 : decode cX11_cell 86 = .ok (.iconst 3, 1) := by decide +kernel
theorem dX11_cell_87 : decode cX11_cell 87 = .ok (.irem, 1) := by decide +kernel
theorem dX11_cell_88 : decode cX11_cell 88 = .ok (.invokevirtual 190, 3) := by decide +kernel
theorem dX11_cell_91 : decode cX11_cell 91 = .ok (.lastore, 1) := by decide +kernel
theorem dX11_cell_92 : decode cX11_cell 92 = .ok (.lload 6, 2) := by decide +kernel
theorem dX11_cell_94 : decode cX11_cell 94 = .ok (.aload_n 0, 1) := by decide +kernel
theorem dX11_cell_95 : decode cX11_cell 95 = .ok (.getfield 36, 3) := by decide +kernel
theorem dX11_cell_98 : decode cX11_cell 98 = .ok (.iload 8, 2) := by decide +kernel
theorem dX11_cell_100 : decode cX11_cell 100 = .ok (.laload, 1) := by decide +kernel
theorem dX11_cell_101 : decode cX11_cell 101 = .ok (.invokestatic 72, 3) := by decide +kernel
theorem dX11_cell_104 : decode cX11_cell 104 = .ok (.lstore 6, 2) := by decide +kernel
theorem dX11_cell_106 : decode cX11_cell 106 = .ok (.iinc 8 1, 3) := by decide +kernel
theorem dX11_cell_109 : decode cX11_cell 109 = .ok (.goto (-43), 3) := by decide +kernel
theorem dX11_cell_112 : decode cX11_cell 112 = .ok (.lload 4, 2) := by decide +kernel
theorem dX11_cell_114 : decode cX11_cell 114 = .ok (.lload 6, 2) := by decide +kernel
theorem dX11_cell_116 : decode cX11_cell 116 = .ok (.ldiv, 1) := by decide +kernel
theorem dX11_cell_117 : decode cX11_cell 117 = .ok (.lstore 4, 2) := by decide +kernel
theorem dX11_cell_119 : decode cX11_cell 119 = .ok (.iconst 0, 1) := by decide +kernel
theorem dX11_cell_120 : decode cX11_cell 120 = .ok (.istore 8, 2) := by decide +kernel
theorem dX11_cell_122 : decode cX11_cell 122 = .ok (.iload 8, 2) := by decide +kernel
theorem dX11_cell_124 : decode cX11_cell 124 = .ok (.bipush 9, 2) := by decide +kernel
theorem dX11_cell_126 : decode cX11_cell 126 = .ok (.if_icmp .ge 21, 3) := by decide +kernel
theorem dX11_cell_129 : decode cX11_cell 129 = .ok (.aload_n 0, 1) := by decide +kernel
theorem dX11_cell_130 : decode cX11_cell 130 = .ok (.getfield 36, 3) := by decide +kernel
theorem dX11_cell_133 : decode cX11_cell 133 = .ok (.iload 8, 2) := by decide +kernel
theorem dX11_cell_135 : decode cX11_cell 135 = .ok (.dup2, 1) := by decide +kernel
theorem dX11_cell_136 : decode cX11_cell 136 = .ok (.laload, 1) := by decide +kernel
theorem dX11_cell_137 : decode cX11_cell 137 = .ok (.lload 6, 2) := by decide +kernel
theorem dX11_cell_139 : decode cX11_cell 139 = .ok (.ldiv, 1) := by decide +kernel
theorem dX11_cell_140 : decode cX11_cell 140 = .ok (.lastore, 1) := by decide +kernel
theorem dX11_cell_141 : decode cX11_cell 141 = .ok (.iinc 8 1, 3) := by decide +kernel
theorem dX11_cell_144 : decode cX11_cell 144 = .ok (.goto (-22), 3) := by decide +kernel
theorem dX11_cell_147 : decode cX11_cell 147 = .ok (.iconst 1, 1) := by decide +kernel
theorem dX11_cell_148 : decode cX11_cell 148 = .ok (.istore 8, 2) := by decide +kernel
theorem dX11_cell_150 : decode cX11_cell 150 = .ok (.aload_n 0, 1) := by decide +kernel
theorem dX11_cell_151 : decode cX11_cell 151 = .ok (.iload 8, 2) := by decide +kernel
theorem dX11_cell_153 : decode cX11_cell 153 = .ok (.i2l, 1) := by decide +kernel
theorem dX11_cell_154 : decode cX11_cell 154 = .ok (.lconst 0, 1) := by decide +kernel
theorem dX11_cell_155 : decode cX11_cell 155 = .ok (.lconst 0, 1) := by decide +kernel
theorem dX11_cell_156 : decode cX11_cell 156 = .ok (.lload 4, 2) := by decide +kernel
theorem dX11_cell_158 : decode cX11_cell 158 = .ok (.invokevirtual 210, 3) := by decide +kernel
theorem dX11_cell_161 : decode cX11_cell 161 = .ok (.ifCond .ne 9, 3) := by decide +kernel
theorem dX11_cell_164 : decode cX11_cell 164 = .ok (.iinc 8 1, 3) := by decide +kernel
theorem dX11_cell_167 : decode cX11_cell 167 = .ok (.goto (-17), 3) := by decide +kernel
theorem dX11_cell_170 : decode cX11_cell 170 = .ok (.iconst 0, 1) := by decide +kernel
theorem dX11_cell_171 : decode cX11_cell 171 = .ok (.istore 9, 2) := by decide +kernel
theorem dX11_cell_173 : decode cX11_cell 173 = .ok (.iconst 1, 1) := by decide +kernel
theorem dX11_cell_174 : decode cX11_cell 174 = .ok (.istore 10, 2) := by decide +kernel
theorem dX11_cell_176 : decode cX11_cell 176 = .ok (.aload_n 0, 1) := by decide +kernel
theorem dX11_cell_177 : decode cX11_cell 177 = .ok (.iload 9, 2) := by decide +kernel
theorem dX11_cell_179 : decode cX11_cell 179 = .ok (.i2l, 1) := by decide +kernel
theorem dX11_cell_180 : decode cX11_cell 180 = .ok (.iload 10, 2) := by decide +kernel
theorem dX11_cell_182 : decode cX11_cell 182 = .ok (.i2l, 1) := by decide +kernel
theorem dX11_cell_183 : decode cX11_cell 183 = .ok (.lconst 0, 1) := by decide +kernel
theorem dX11_cell_184 : decode cX11_cell 184 = .ok (.lload 4, 2) := by decide +kernel
theorem dX11_cell_186 : decode cX11_cell 186 = .ok (.invokevirtual 210, 3) := by decide +kernel
theorem dX11_cell_189 : decode cX11_cell 189 = .ok (.ifCond .ne 22, 3) := by decide +kernel
theorem dX11_cell_192 : decode cX11_cell 192 = .ok (.iinc 9 1, 3) := by decide +kernel
theorem dX11_cell_195 : decode cX11_cell 195 = .ok (.iload 9, 2) := by decide +kernel
theorem dX11_cell_197 : decode cX11_cell 197 = .ok (.iload 8, 2) := by decide +kernel
theorem dX11_cell_199 : decode cX11_cell 199 = .ok (.if_icmp .ne (-23), 3) := by decide +kernel
theorem dX11_cell_202 : decode cX11_cell 202 = .ok (.iconst 0, 1) := by decide +kernel
theorem dX11_cell_203 : decode cX11_cell 203 = .ok (.istore 9, 2) := by decide +kernel
theorem dX11_cell_205 : decode cX11_cell 205 = .ok (.iinc 10 1, 3) := by decide +kernel
theorem dX11_cell_208 : decode cX11_cell 208 = .ok (.goto (-32), 3) := by decide +kernel
theorem dX11_cell_211 : decode cX11_cell 211 = .ok (.iconst 0, 1) := by decide +kernel
theorem dX11_cell_212 : decode cX11_cell 212 = .ok (.istore 11, 2) := by decide +kernel
theorem dX11_cell_214 : decode cX11_cell 214 = .ok (.iconst 0, 1) := by decide +kernel
theorem dX11_cell_215 : decode cX11_cell 215 = .ok (.istore 12, 2) := by decide +kernel
theorem dX11_cell_217 : decode cX11_cell 217 = .ok (.iconst 1, 1) := by decide +kernel
theorem dX11_cell_218 : decode cX11_cell 218 = .ok (.istore 13, 2) := by decide +kernel
theorem dX11_cell_220 : decode cX11_cell 220 = .ok (.aload_n 0, 1) := by decide +kernel
theorem dX11_cell_221 : decode cX11_cell 221 = .ok (.iload 11, 2) := by decide +kernel
theorem dX11_cell_223 : decode cX11_cell 223 = .ok (.i2l, 1) := by decide +kernel
theorem dX11_cell_224 : decode cX11_cell 224 = .ok (.iload 12, 2) := by decide +kernel
theorem dX11_cell_226 : decode cX11_cell 226 = .ok (.i2l, 1) := by decide +kernel
theorem dX11_cell_227 : decode cX11_cell 227 = .ok (.iload 13, 2) := by decide +kernel
theorem dX11_cell_229 : decode cX11_cell 229 = .ok (.i2l, 1) := by decide +kernel
theorem dX11_cell_230 : decode cX11_cell 230 = .ok (.lload 4, 2) := by decide +kernel
theorem dX11_cell_232 : decode cX11_cell 232 = .ok (.invokevirtual 210, 3) := by decide +kernel
theorem dX11_cell_235 : decode cX11_cell 235 = .ok (.ifCond .ne 35, 3) := by decide +kernel
theorem dX11_cell_238 : decode cX11_cell 238 = .ok (.iinc 11 1, 3) := by decide +kernel
theorem dX11_cell_241 : decode cX11_cell 241 = .ok (.iload 11, 2) := by decide +kernel
theorem dX11_cell_243 : decode cX11_cell 243 = .ok (.iload 8, 2) := by decide +kernel
theorem dX11_cell_245 : decode cX11_cell 245 = .ok (.if_icmp .ne 9, 3) := by decide +kernel
theorem dX11_cell_248 : decode cX11_cell 248 = .ok (.iconst 0, 1) := by decide +kernel
theorem dX11_cell_249 : decode cX11_cell 249 = .ok (.istore 11, 2) := by decide +kernel
theorem dX11_cell_251 : decode cX11_cell 251 = .ok (.iinc 12 1, 3) := by decide +kernel
theorem dX11_cell_254 : decode cX11_cell 254 = .ok (.iload 12, 2) := by decide +kernel
theorem dX11_cell_256 : decode cX11_cell 256 = .ok (.iload 10, 2) := by decide +kernel
theorem dX11_cell_258 : decode cX11_cell 258 = .ok (.if_icmp .ne (-38), 3) := by decide +kernel
theorem dX11_cell_261 : decode cX11_cell 261 = .ok (.iconst 0, 1) := by decide +kernel
theorem dX11_cell_262 : decode cX11_cell 262 = .ok (.istore 12, 2) := by decide +kernel
theorem dX11_cell_264 : decode cX11_cell 264 = .ok (.iinc 13 1, 3) := by decide +kernel
theorem dX11_cell_267 : decode cX11_cell 267 = .ok (.goto (-47), 3) := by decide +kernel
theorem dX11_cell_270 : decode cX11_cell 270 = .ok (.aload_n 0, 1) := by decide +kernel
theorem dX11_cell_271 : decode cX11_cell 271 = .ok (.iload_n 2, 1) := by decide +kernel
theorem dX11_cell_272 : decode cX11_cell 272 = .ok (.ifCond .ne 8, 3) := by decide +kernel
theorem dX11_cell_275 : decode cX11_cell 275 = .ok (.iload 8, 2) := by decide +kernel
theorem dX11_cell_277 : decode cX11_cell 277 = .ok (.goto 45, 3) := by decide +kernel
theorem dX11_cell_280 : decode cX11_cell 280 = .ok (.iload_n 2, 1) := by decide +kernel
theorem dX11_cell_281 : decode cX11_cell 281 = .ok (.iconst 1, 1) := by decide +kernel
theorem dX11_cell_282 : decode cX11_cell 282 = .ok (.if_icmp .ne 8, 3) := by decide +kernel
theorem dX11_cell_285 : decode cX11_cell 285 = .ok (.iload 9, 2) := by decide +kernel
theorem dX11_cell_287 : decode cX11_cell 287 = .ok (.goto 35, 3) := by decide +kernel
theorem dX11_cell_290 : decode cX11_cell 290 = .ok (.iload_n 2, 1) := by decide +kernel
theorem dX11_cell_291 : decode cX11_cell 291 = .ok (.iconst 2, 1) := by decide +kernel
theorem dX11_cell_292 : decode cX11_cell 292 = .ok (.if_icmp .ne 8, 3) := by decide +kernel
theorem dX11_cell_295 : decode cX11_cell 295 = .ok (.iload 10, 2) := by decide +kernel
theorem dX11_cell_297 : decode cX11_cell 297 = .ok (.goto 25, 3) := by decide +kernel
theorem dX11_cell_300 : decode cX11_cell 300 = .ok (.iload_n 2, 1) := by decide +kernel
theorem dX11_cell_301 : decode cX11_cell 301 = .ok (.iconst 3, 1) := by decide +kernel
theorem dX11_cell_302 : decode cX11_cell 302 = .ok (.if_icmp .ne 8, 3) := by decide +kernel
theorem dX11_cell_305 : decode cX11_cell 305 = .ok (.iload 11, 2) := by decide +kernel
theorem dX11_cell_307 : decode cX11_cell 307 = .ok (.goto 15, 3) := by decide +kernel
theorem dX11_cell_310 : decode cX11_cell 310 = .ok (.iload_n 2, 1) := by decide +kernel
theorem dX11_cell_311 : decode cX11_cell 311 = .ok (.iconst 4, 1) := by decide +kernel
theorem dX11_cell_312 : decode cX11_cell 312 = .ok (.if_icmp .ne 8, 3) := by decide +kernel
theorem dX11_cell_315 : decode cX11_cell 315 = .ok (.iload 12, 2) := by decide +kernel
theorem dX11_cell_317 : decode cX11_cell 317 = .ok (.goto 5, 3) := by decide +kernel
theorem dX11_cell_320 : decode cX11_cell 320 = .ok (.iload 13, 2) := by decide +kernel
theorem dX11_cell_322 : decode cX11_cell 322 = .ok (.invokevirtual 61, 3) := by decide +kernel
theorem dX11_cell_325 : decode cX11_cell 325 = .ok (.ireturn, 1) := by decide +kernel
theorem dX11_status_0 : decode cX11_status 0 = .ok (.aload_n 0, 1) := by decide +kernel
theorem dX11_status_1 : decode cX11_status 1 = .ok (.getfield 39, 3) := by decide +kernel
theorem dX11_status_4 : decode cX11_status 4 = .ok (.ireturn, 1) := by decide +kernel
theorem dJ9_floorDiv_f86c9_0 : decode cJ9_floorDiv_f86c9 0 = .ok (.lload_n 0, 1) := by decide +kernel
theorem dJ9_floorDiv_f86c9_1 : decode cJ9_floorDiv_f86c9 1 = .ok (.lload_n 2, 1) := by decide +kernel
theorem dJ9_floorDiv_f86c9_2 : decode cJ9_floorDiv_f86c9 2 = .ok (.ldiv, 1) := by decide +kernel
theorem dJ9_floorDiv_f86c9_3 : decode cJ9_floorDiv_f86c9 3 = .ok (.lstore 4, 2) := by decide +kernel
theorem dJ9_floorDiv_f86c9_5 : decode cJ9_floorDiv_f86c9 5 = .ok (.lload_n 0, 1) := by decide +kernel
theorem dJ9_floorDiv_f86c9_6 : decode cJ9_floorDiv_f86c9 6 = .ok (.lload_n 2, 1) := by decide +kernel
theorem dJ9_floorDiv_f86c9_7 : decode cJ9_floorDiv_f86c9 7 = .ok (.lxor, 1) := by decide +kernel
theorem dJ9_floorDiv_f86c9_8 : decode cJ9_floorDiv_f86c9 8 = .ok (.lconst 0, 1) := by decide +kernel
theorem dJ9_floorDiv_f86c9_9 : decode cJ9_floorDiv_f86c9 9 = .ok (.lcmp, 1) := by decide +kernel
theorem dJ9_floorDiv_f86c9_10 : decode cJ9_floorDiv_f86c9 10 = .ok (.ifCond .ge 17, 3) := by decide +kernel
theorem dJ9_floorDiv_f86c9_13 : decode cJ9_floorDiv_f86c9 13 = .ok (.lload 4, 2) := by decide +kernel
theorem dJ9_floorDiv_f86c9_15 : decode cJ9_floorDiv_f86c9 15 = .ok (.lload_n 2, 1) := by decide +kernel
theorem dJ9_floorDiv_f86c9_16 : decode cJ9_floorDiv_f86c9 16 = .ok (.lmul, 1) := by decide +kernel
theorem dJ9_floorDiv_f86c9_17 : decode cJ9_floorDiv_f86c9 17 = .ok (.lload_n 0, 1) := by decide +kernel
theorem dJ9_floorDiv_f86c9_18 : decode cJ9_floorDiv_f86c9 18 = .ok (.lcmp, 1) := by decide +kernel
theorem dJ9_floorDiv_f86c9_19 : decode cJ9_floorDiv_f86c9 19 = .ok (.ifCond .eq 8, 3) := by decide +kernel
theorem dJ9_floorDiv_f86c9_22 : decode cJ9_floorDiv_f86c9 22 = .ok (.lload 4, 2) := by decide +kernel
theorem dJ9_floorDiv_f86c9_24 : decode cJ9_floorDiv_f86c9 24 = .ok (.lconst 1, 1) := by decide +kernel
theorem dJ9_floorDiv_f86c9_25 : decode cJ9_floorDiv_f86c9 25 = .ok (.lsub, 1) := by decide +kernel
theorem dJ9_floorDiv_f86c9_26 : decode cJ9_floorDiv_f86c9 26 = .ok (.lreturn, 1) := by decide +kernel
theorem dJ9_floorDiv_f86c9_27 : decode cJ9_floorDiv_f86c9 27 = .ok (.lload 4, 2) := by decide +kernel
theorem dJ9_floorDiv_f86c9_29 : decode cJ9_floorDiv_f86c9 29 = .ok (.lreturn, 1) := by decide +kernel
theorem dJ9_floorMod_f86c9_0 : decode cJ9_floorMod_f86c9 0 = .ok (.lload_n 0, 1) := by decide +kernel
theorem dJ9_floorMod_f86c9_1 : decode cJ9_floorMod_f86c9 1 = .ok (.lload_n 2, 1) := by decide +kernel
theorem dJ9_floorMod_f86c9_2 : decode cJ9_floorMod_f86c9 2 = .ok (.lrem, 1) := by decide +kernel
theorem dJ9_floorMod_f86c9_3 : decode cJ9_floorMod_f86c9 3 = .ok (.lstore 4, 2) := by decide +kernel
theorem dJ9_floorMod_f86c9_5 : decode cJ9_floorMod_f86c9 5 = .ok (.lload_n 0, 1) := by decide +kernel
theorem dJ9_floorMod_f86c9_6 : decode cJ9_floorMod_f86c9 6 = .ok (.lload_n 2, 1) := by decide +kernel
theorem dJ9_floorMod_f86c9_7 : decode cJ9_floorMod_f86c9 7 = .ok (.lxor, 1) := by decide +kernel
theorem dJ9_floorMod_f86c9_8 : decode cJ9_floorMod_f86c9 8 = .ok (.lconst 0, 1) := by decide +kernel
theorem dJ9_floorMod_f86c9_9 : decode cJ9_floorMod_f86c9 9 = .ok (.lcmp, 1) := by decide +kernel
theorem dJ9_floorMod_f86c9_10 : decode cJ9_floorMod_f86c9 10 = .ok (.ifCond .ge 15, 3) := by decide +kernel
theorem dJ9_floorMod_f86c9_13 : decode cJ9_floorMod_f86c9 13 = .ok (.lload 4, 2) := by decide +kernel
theorem dJ9_floorMod_f86c9_15 : decode cJ9_floorMod_f86c9 15 = .ok (.lconst 0, 1) := by decide +kernel
theorem dJ9_floorMod_f86c9_16 : decode cJ9_floorMod_f86c9 16 = .ok (.lcmp, 1) := by decide +kernel
theorem dJ9_floorMod_f86c9_17 : decode cJ9_floorMod_f86c9 17 = .ok (.ifCond .eq 8, 3) := by decide +kernel
theorem dJ9_floorMod_f86c9_20 : decode cJ9_floorMod_f86c9 20 = .ok (.lload 4, 2) := by decide +kernel
theorem dJ9_floorMod_f86c9_22 : decode cJ9_floorMod_f86c9 22 = .ok (.lload_n 2, 1) := by decide +kernel
theorem dJ9_floorMod_f86c9_23 : decode cJ9_floorMod_f86c9 23 = .ok (.ladd, 1) := by decide +kernel
theorem dJ9_floorMod_f86c9_24 : decode cJ9_floorMod_f86c9 24 = .ok (.lreturn, 1) := by decide +kernel
theorem dJ9_floorMod_f86c9_25 : decode cJ9_floorMod_f86c9 25 = .ok (.lload 4, 2) := by decide +kernel
theorem dJ9_floorMod_f86c9_27 : decode cJ9_floorMod_f86c9 27 = .ok (.lreturn, 1) := by decide +kernel
theorem dJ9_abs_067f4_0 : decode cJ9_abs_067f4 0 = .ok (.lload_n 0, 1) := by decide +kernel
theorem dJ9_abs_067f4_1 : decode cJ9_abs_067f4 1 = .ok (.lconst 0, 1) := by decide +kernel
theorem dJ9_abs_067f4_2 : decode cJ9_abs_067f4 2 = .ok (.lcmp, 1) := by decide +kernel
theorem dJ9_abs_067f4_3 : decode cJ9_abs_067f4 3 = .ok (.ifCond .ge 8, 3) := by decide +kernel
theorem dJ9_abs_067f4_6 : decode cJ9_abs_067f4 6 = .ok (.lload_n 0, 1) := by decide +kernel
theorem dJ9_abs_067f4_7 : decode cJ9_abs_067f4 7 = .ok (.lneg, 1) := by decide +kernel
theorem dJ9_abs_067f4_8 : decode cJ9_abs_067f4 8 = .ok (.goto 4, 3) := by decide +kernel
theorem dJ9_abs_067f4_11 : decode cJ9_abs_067f4 11 = .ok (.lload_n 0, 1) := by decide +kernel
theorem dJ9_abs_067f4_12 : decode cJ9_abs_067f4 12 = .ok (.lreturn, 1) := by decide +kernel
theorem dL_law_0 : decode cL_law 0 = .ok (.new 7, 3) := by decide +kernel
theorem dL_law_3 : decode cL_law 3 = .ok (.dup, 1) := by decide +kernel
theorem dL_law_4 : decode cL_law 4 = .ok (.invokespecial 9, 3) := by decide +kernel
theorem dL_law_7 : decode cL_law 7 = .ok (.astore_n 1, 1) := by decide +kernel
theorem dL_law_8 : decode cL_law 8 = .ok (.new 10, 3) := by decide +kernel
theorem dL_law_11 : decode cL_law 11 = .ok (.dup, 1) := by decide +kernel
theorem dL_law_12 : decode cL_law 12 = .ok (.invokespecial 12, 3) := by decide +kernel
theorem dL_law_15 : decode cL_law 15 = .ok (.astore_n 2, 1) := by decide +kernel
theorem dL_law_16 : decode cL_law 16 = .ok (.iconst 0, 1) := by decide +kernel
theorem dL_law_17 : decode cL_law 17 = .ok (.istore_n 3, 1) := by decide +kernel
theorem dL_law_18 : decode cL_law 18 = .ok (.iload_n 3, 1) := by decide +kernel
theorem dL_law_19 : decode cL_law 19 = .ok (.aload_n 0, 1) := by decide +kernel
theorem dL_law_20 : decode cL_law 20 = .ok (.arraylength, 1) := by decide +kernel
theorem dL_law_21 : decode cL_law 21 = .ok (.bipush 7, 2) := by decide +kernel
theorem dL_law_23 : decode cL_law 23 = .ok (.isub, 1) := by decide +kernel
theorem dL_law_24 : decode cL_law 24 = .ok (.if_icmp .gt 1387, 3) := by decide +kernel
theorem dL_law_27 : decode cL_law 27 = .ok (.aload_n 0, 1) := by decide +kernel
theorem dL_law_28 : decode cL_law 28 = .ok (.iload_n 3, 1) := by decide +kernel
theorem dL_law_29 : decode cL_law 29 = .ok (.iaload, 1) := by decide +kernel
theorem dL_law_30 : decode cL_law 30 = .ok (.bipush 63, 2) := by decide +kernel
theorem dL_law_32 : decode cL_law 32 = .ok (.iand, 1) := by decide +kernel
theorem dL_law_33 : decode cL_law 33 = .ok (.tableswitch 1372 0 32 #[147, 190, 264, 327, 350, 393, 416, 450, 473, 496, 529, 562, 595, 618, 661, 704, 737, 800, 853, 896, 929, 972, 995, 1038, 1061, 1084, 1138, 1214, 1237, 1270, 1303, 1326, 1359], 147) := by decide +kernel
theorem dL_law_180 : decode cL_law 180 = .ok (.aload_n 1, 1) := by decide +kernel
theorem dL_law_181 : decode cL_law 181 = .ok (.aload_n 0, 1) := by decide +kernel
theorem dL_law_182 : decode cL_law 182 = .ok (.iload_n 3, 1) := by decide +kernel
theorem dL_law_183 : decode cL_law 183 = .ok (.iconst 1, 1) := by decide +kernel
theorem dL_law_184 : decode cL_law 184 = .ok (.iadd, 1) := by decide +kernel
theorem dL_law_185 : decode cL_law 185 = .ok (.iaload, 1) := by decide +kernel
theorem dL_law_186 : decode cL_law 186 = .ok (.aload_n 0, 1) := by decide +kernel
theorem dL_law_187 : decode cL_law 187 = .ok (.iload_n 3, 1) := by decide +kernel
theorem dL_law_188 : decode cL_law 188 = .ok (.iconst 2, 1) := by decide +kernel
theorem dL_law_189 : decode cL_law 189 = .ok (.iadd, 1) := by decide +kernel
theorem dL_law_190 : decode cL_law 190 = .ok (.iaload, 1) := by decide +kernel
theorem dL_law_191 : decode cL_law 191 = .ok (.aload_n 0, 1) := by decide +kernel
theorem dL_law_192 : decode cL_law 192 = .ok (.iload_n 3, 1) := by decide +kernel
theorem dL_law_193 : decode cL_law 193 = .ok (.iconst 3, 1) := by decide +kernel
theorem dL_law_194 : decode cL_law 194 = .ok (.iadd, 1) := by decide +kernel
theorem dL_law_195 : decode cL_law 195 = .ok (.iaload, 1) := by decide +kernel
theorem dL_law_196 : decode cL_law 196 = .ok (.invokevirtual 13, 3) := by decide +kernel
theorem dL_law_199 : decode cL_law 199 = .ok (.aload_n 2, 1) := by decide +kernel
theorem dL_law_200 : decode cL_law 200 = .ok (.aload_n 0, 1) := by decide +kernel
theorem dL_law_201 : decode cL_law 201 = .ok (.iload_n 3, 1) := by decide +kernel
theorem dL_law_202 : decode cL_law 202 = .ok (.iconst 1, 1) := by decide +kernel
theorem dL_law_203 : decode cL_law 203 = .ok (.iadd, 1) := by decide +kernel
theorem dL_law_204 : decode cL_law 204 = .ok (.iaload, 1) := by decide +kernel
theorem dL_law_205 : decode cL_law 205 = .ok (.aload_n 0, 1) := by decide +kernel
theorem dL_law_206 : decode cL_law 206 = .ok (.iload_n 3, 1) := by decide +kernel
theorem dL_law_207 : decode cL_law 207 = .ok (.iconst 2, 1) := by decide +kernel
theorem dL_law_208 : decode cL_law 208 = .ok (.iadd, 1) := by decide +kernel
theorem dL_law_209 : decode cL_law 209 = .ok (.iaload, 1) := by decide +kernel
theorem dL_law_210 : decode cL_law 210 = .ok (.aload_n 0, 1) := by decide +kernel
theorem dL_law_211 : decode cL_law 211 = .ok (.iload_n 3, 1) := by decide +kernel
theorem dL_law_212 : decode cL_law 212 = .ok (.iconst 3, 1) := by decide +kernel
theorem dL_law_213 : decode cL_law 213 = .ok (.iadd, 1) := by decide +kernel
theorem dL_law_214 : decode cL_law 214 = .ok (.iaload, 1) := by decide +kernel
theorem dL_law_215 : decode cL_law 215 = .ok (.invokevirtual 17, 3) := by decide +kernel
theorem dL_law_218 : decode cL_law 218 = .ok (.if_icmp .eq 1187, 3) := by decide +kernel
theorem dL_law_221 : decode cL_law 221 = .ok (.iconst 0, 1) := by decide +kernel
theorem dL_law_222 : decode cL_law 222 = .ok (.ireturn, 1) := by decide +kernel
theorem dL_law_223 : decode cL_law 223 = .ok (.aload_n 1, 1) := by decide +kernel
theorem dL_law_224 : decode cL_law 224 = .ok (.aload_n 0, 1) := by decide +kernel
theorem dL_law_225 : decode cL_law 225 = .ok (.iload_n 3, 1) := by decide +kernel
theorem dL_law_226 : decode cL_law 226 = .ok (.iconst 1, 1) := by decide +kernel
theorem dL_law_227 : decode cL_law 227 = .ok (.iadd, 1) := by decide +kernel
theorem dL_law_228 : decode cL_law 228 = .ok (.iaload, 1) := by decide +kernel
theorem dL_law_229 : decode cL_law 229 = .ok (.aload_n 0, 1) := by decide +kernel
theorem dL_law_230 : decode cL_law 230 = .ok (.iload_n 3, 1) := by decide +kernel
theorem dL_law_231 : decode cL_law 231 = .ok (.iconst 2, 1) := by decide +kernel
theorem dL_law_232 : decode cL_law 232 = .ok (.iadd, 1) := by decide +kernel
theorem dL_law_233 : decode cL_law 233 = .ok (.iaload, 1) := by decide +kernel
theorem dL_law_234 : decode cL_law 234 = .ok (.aload_n 0, 1) := by decide +kernel
theorem dL_law_235 : decode cL_law 235 = .ok (.iload_n 3, 1) := by decide +kernel
theorem dL_law_236 : decode cL_law 236 = .ok (.iconst 3, 1) := by decide +kernel
theorem dL_law_237 : decode cL_law 237 = .ok (.iadd, 1) := by decide +kernel
theorem dL_law_238 : decode cL_law 238 = .ok (.iaload, 1) := by decide +kernel
theorem dL_law_239 : decode cL_law 239 = .ok (.i2l, 1) := by decide +kernel
theorem dL_law_240 : decode cL_law 240 = .ok (.bipush 32, 2) := by decide +kernel
theorem dL_law_242 : decode cL_law 242 = .ok (.lshl, 1) := by decide +kernel
theorem dL_law_243 : decode cL_law 243 = .ok (.aload_n 0, 1) := by decide +kernel
theorem dL_law_244 : decode cL_law 244 = .ok (.iload_n 3, 1) := by decide +kernel
theorem dL_law_245 : decode cL_law 245 = .ok (.iconst 4, 1) := by decide +kernel
theorem dL_law_246 : decode cL_law 246 = .ok (.iadd, 1) := by decide +kernel
theorem dL_law_247 : decode cL_law 247 = .ok (.iaload, 1) := by decide +kernel
theorem dL_law_248 : decode cL_law 248 = .ok (.i2l, 1) := by decide +kernel
theorem dL_law_249 : decode cL_law 249 = .ok (.ldc2_w 18, 3) := by decide +kernel
theorem dL_law_252 : decode cL_law 252 = .ok (.land, 1) := by decide +kernel
theorem dL_law_253 : decode cL_law 253 = .ok (.lor, 1) := by decide +kernel
theorem dL_law_254 : decode cL_law 254 = .ok (.invokevirtual 20, 3) := by decide +kernel
theorem dL_law_257 : decode cL_law 257 = .ok (.aload_n 2, 1) := by decide +kernel
theorem dL_law_258 : decode cL_law 258 = .ok (.aload_n 0, 1) := by decide +kernel
theorem dL_law_259 : decode cL_law 259 = .ok (.iload_n 3, 1) := by decide +kernel
theorem dL_law_260 : decode cL_law 260 = .ok (.iconst 1, 1) := by decide +kernel
theorem dL_law_261 : decode cL_law 261 = .ok (.iadd, 1) := by decide +kernel
theorem dL_law_262 : decode cL_law 262 = .ok (.iaload, 1) := by decide +kernel
theorem dL_law_263 : decode cL_law 263 = .ok (.aload_n 0, 1) := by decide +kernel
theorem dL_law_264 : decode cL_law 264 = .ok (.iload_n 3, 1) := by decide +kernel
theorem dL_law_265 : decode cL_law 265 = .ok (.iconst 2, 1) := by decide +kernel
theorem dL_law_266 : decode cL_law 266 = .ok (.iadd, 1) := by decide +kernel
theorem dL_law_267 : decode cL_law 267 = .ok (.iaload, 1) := by decide +kernel
theorem dL_law_268 : decode cL_law 268 = .ok (.aload_n 0, 1) := by decide +kernel
theorem dL_law_269 : decode cL_law 269 = .ok (.iload_n 3, 1) := by decide +kernel
theorem dL_law_270 : decode cL_law 270 = .ok (.iconst 3, 1) := by decide +kernel
theorem dL_law_271 : decode cL_law 271 = .ok (.iadd, 1) := by decide +kernel
theorem dL_law_272 : decode cL_law 272 = .ok (.iaload, 1) := by decide +kernel
theorem dL_law_273 : decode cL_law 273 = .ok (.i2l, 1) := by decide +kernel
theorem dL_law_274 : decode cL_law 274 = .ok (.bipush 32, 2) := by decide +kernel
theorem dL_law_276 : decode cL_law 276 = .ok (.lshl, 1) := by decide +kernel
theorem dL_law_277 : decode cL_law 277 = .ok (.aload_n 0, 1) := by decide +kernel
theorem dL_law_278 : decode cL_law 278 = .ok (.iload_n 3, 1) := by decide +kernel
theorem dL_law_279 : decode cL_law 279 = .ok (.iconst 4, 1) := by decide +kernel
theorem dL_law_280 : decode cL_law 280 = .ok (.iadd, 1) := by decide +kernel
theorem dL_law_281 : decode cL_law 281 = .ok (.iaload, 1) := by decide +kernel
theorem dL_law_282 : decode cL_law 282 = .ok (.i2l, 1) := by decide +kernel
theorem dL_law_283 : decode cL_law 283 = .ok (.ldc2_w 18, 3) := by decide +kernel
theorem dL_law_286 : decode cL_law 286 = .ok (.land, 1) := by decide +kernel
theorem dL_law_287 : decode cL_law 287 = .ok (.lor, 1) := by decide +kernel
theorem dL_law_288 : decode cL_law 288 = .ok (.invokevirtual 24, 3) := by decide +kernel
theorem dL_law_291 : decode cL_law 291 = .ok (.lcmp, 1) := by decide +kernel
theorem dL_law_292 : decode cL_law 292 = .ok (.ifCond .eq 1113, 3) := by decide +kernel
theorem dL_law_295 : decode cL_law 295 = .ok (.iconst 0, 1) := by decide +kernel
theorem dL_law_296 : decode cL_law 296 = .ok (.ireturn, 1) := by decide +kernel
theorem dL_law_297 : decode cL_law 297 = .ok (.aload_n 1, 1) := by decide +kernel
theorem dL_law_298 : decode cL_law 298 = .ok (.aload_n 0, 1) := by decide +kernel
theorem dL_law_299 : decode cL_law 299 = .ok (.iload_n 3, 1) := by decide +kernel
theorem dL_law_300 : decode cL_law 300 = .ok (.iconst 1, 1) := by decide +kernel
theorem dL_law_301 : decode cL_law 301 = .ok (.iadd, 1) := by decide +kernel
theorem dL_law_302 : decode cL_law 302 = .ok (.iaload, 1) := by decide +kernel
theorem dL_law_303 : decode cL_law 303 = .ok (.aload_n 0, 1) := by decide +kernel
theorem dL_law_304 : decode cL_law 304 = .ok (.iload_n 3, 1) := by decide +kernel
theorem dL_law_305 : decode cL_law 305 = .ok (.iconst 2, 1) := by decide +kernel
theorem dL_law_306 : decode cL_law 306 = .ok (.iadd, 1) := by decide +kernel
theorem dL_law_307 : decode cL_law 307 = .ok (.iaload, 1) := by decide +kernel
theorem dL_law_308 : decode cL_law 308 = .ok (.aload_n 0, 1) := by decide +kernel
theorem dL_law_309 : decode cL_law 309 = .ok (.iload_n 3, 1) := by decide +kernel
theorem dL_law_310 : decode cL_law 310 = .ok (.iconst 3, 1) := by decide +kernel
theorem dL_law_311 : decode cL_law 311 = .ok (.iadd, 1) := by decide +kernel
theorem dL_law_312 : decode cL_law 312 = .ok (.iaload, 1) := by decide +kernel
theorem dL_law_313 : decode cL_law 313 = .ok (.aload_n 0, 1) := by decide +kernel
theorem dL_law_314 : decode cL_law 314 = .ok (.iload_n 3, 1) := by decide +kernel
theorem dL_law_315 : decode cL_law 315 = .ok (.iconst 4, 1) := by decide +kernel
theorem dL_law_316 : decode cL_law 316 = .ok (.iadd, 1) := by decide +kernel
theorem dL_law_317 : decode cL_law 317 = .ok (.iaload, 1) := by decide +kernel
theorem dL_law_318 : decode cL_law 318 = .ok (.aload_n 0, 1) := by decide +kernel
theorem dL_law_319 : decode cL_law 319 = .ok (.iload_n 3, 1) := by decide +kernel
theorem dL_law_320 : decode cL_law 320 = .ok (.iconst 5, 1) := by decide +kernel
theorem dL_law_321 : decode cL_law 321 = .ok (.iadd, 1) := by decide +kernel
theorem dL_law_322 : decode cL_law 322 = .ok (.iaload, 1) := by decide +kernel
theorem dL_law_323 : decode cL_law 323 = .ok (.invokevirtual 25, 3) := by decide +kernel
theorem dL_law_326 : decode cL_law 326 = .ok (.aload_n 2, 1) := by decide +kernel
theorem dL_law_327 : decode cL_law 327 = .ok (.aload_n 0, 1) := by decide +kernel
theorem dL_law_328 : decode cL_law 328 = .ok (.iload_n 3, 1) := by decide +kernel
theorem dL_law_329 : decode cL_law 329 = .ok (.iconst 1, 1) := by decide +kernel
theorem dL_law_330 : decode cL_law 330 = .ok (.iadd, 1) := by decide +kernel
theorem dL_law_331 : decode cL_law 331 = .ok (.iaload, 1) := by decide +kernel
theorem dL_law_332 : decode cL_law 332 = .ok (.aload_n 0, 1) := by decide +kernel
theorem dL_law_333 : decode cL_law 333 = .ok (.iload_n 3, 1) := by decide +kernel
theorem dL_law_334 : decode cL_law 334 = .ok (.iconst 2, 1) := by decide +kernel
theorem dL_law_335 : decode cL_law 335 = .ok (.iadd, 1) := by decide +kernel
theorem dL_law_336 : decode cL_law 336 = .ok (.iaload, 1) := by decide +kernel
theorem dL_law_337 : decode cL_law 337 = .ok (.aload_n 0, 1) := by decide +kernel
theorem dL_law_338 : decode cL_law 338 = .ok (.iload_n 3, 1) := by decide +kernel
theorem dL_law_339 : decode cL_law 339 = .ok (.iconst 3, 1) := by decide +kernel
theorem dL_law_340 : decode cL_law 340 = .ok (.iadd, 1) := by decide +kernel
theorem dL_law_341 : decode cL_law 341 = .ok (.iaload, 1) := by decide +kernel
theorem dL_law_342 : decode cL_law 342 = .ok (.aload_n 0, 1) := by decide +kernel
theorem dL_law_343 : decode cL_law 343 = .ok (.iload_n 3, 1) := by decide +kernel
theorem dL_law_344 : decode cL_law 344 = .ok (.iconst 4, 1) := by decide +kernel
theorem dL_law_345 : decode cL_law 345 = .ok (.iadd, 1) := by decide +kernel
theorem dL_law_346 : decode cL_law 346 = .ok (.iaload, 1) := by decide +kernel
theorem dL_law_347 : decode cL_law 347 = .ok (.aload_n 0, 1) := by decide +kernel
theorem dL_law_348 : decode cL_law 348 = .ok (.iload_n 3, 1) := by decide +kernel
theorem dL_law_349 : decode cL_law 349 = .ok (.iconst 5, 1) := by decide +kernel
theorem dL_law_350 : decode cL_law 350 = .ok (.iadd, 1) := by decide +kernel
theorem dL_law_351 : decode cL_law 351 = .ok (.iaload, 1) := by decide +kernel
theorem dL_law_352 : decode cL_law 352 = .ok (.invokevirtual 29, 3) := by decide +kernel
theorem dL_law_355 : decode cL_law 355 = .ok (.if_icmp .eq 1050, 3) := by decide +kernel
theorem dL_law_358 : decode cL_law 358 = .ok (.iconst 0, 1) := by decide +kernel
theorem dL_law_359 : decode cL_law 359 = .ok (.ireturn, 1) := by decide +kernel
theorem dL_law_360 : decode cL_law 360 = .ok (.aload_n 1, 1) := by decide +kernel
theorem dL_law_361 : decode cL_law 361 = .ok (.aload_n 0, 1) := by decide +kernel
theorem dL_law_362 : decode cL_law 362 = .ok (.iload_n 3, 1) := by decide +kernel
theorem dL_law_363 : decode cL_law 363 = .ok (.iconst 1, 1) := by decide +kernel
theorem dL_law_364 : decode cL_law 364 = .ok (.iadd, 1) := by decide +kernel
theorem dL_law_365 : decode cL_law 365 = .ok (.iaload, 1) := by decide +kernel
theorem dL_law_366 : decode cL_law 366 = .ok (.invokevirtual 30, 3) := by decide +kernel
theorem dL_law_369 : decode cL_law 369 = .ok (.aload_n 2, 1) := by decide +kernel
theorem dL_law_370 : decode cL_law 370 = .ok (.aload_n 0, 1) := by decide +kernel
theorem dL_law_371 : decode cL_law 371 = .ok (.iload_n 3, 1) := by decide +kernel
theorem dL_law_372 : decode cL_law 372 = .ok (.iconst 1, 1) := by decide +kernel
theorem dL_law_373 : decode cL_law 373 = .ok (.iadd, 1) := by decide +kernel
theorem dL_law_374 : decode cL_law 374 = .ok (.iaload, 1) := by decide +kernel
theorem dL_law_375 : decode cL_law 375 = .ok (.invokevirtual 34, 3) := by decide +kernel
theorem dL_law_378 : decode cL_law 378 = .ok (.if_icmp .eq 1027, 3) := by decide +kernel
theorem dL_law_381 : decode cL_law 381 = .ok (.iconst 0, 1) := by decide +kernel
theorem dL_law_382 : decode cL_law 382 = .ok (.ireturn, 1) := by decide +kernel
theorem dL_law_383 : decode cL_law 383 = .ok (.aload_n 1, 1) := by decide +kernel
theorem dL_law_384 : decode cL_law 384 = .ok (.aload_n 0, 1) := by decide +kernel
theorem dL_law_385 : decode cL_law 385 = .ok (.iload_n 3, 1) := by decide +kernel
theorem dL_law_386 : decode cL_law 386 = .ok (.iconst 1, 1) := by decide +kernel
theorem dL_law_387 : decode cL_law 387 = .ok (.iadd, 1) := by decide +kernel
theorem dL_law_388 : decode cL_law 388 = .ok (.iaload, 1) := by decide +kernel
theorem dL_law_389 : decode cL_law 389 = .ok (.aload_n 0, 1) := by decide +kernel
theorem dL_law_390 : decode cL_law 390 = .ok (.iload_n 3, 1) := by decide +kernel
theorem dL_law_391 : decode cL_law 391 = .ok (.iconst 2, 1) := by decide +kernel
theorem dL_law_392 : decode cL_law 392 = .ok (.iadd, 1) := by decide +kernel
theorem dL_law_393 : decode cL_law 393 = .ok (.iaload, 1) := by decide +kernel
theorem dL_law_394 : decode cL_law 394 = .ok (.aload_n 0, 1) := by decide +kernel
theorem dL_law_395 : decode cL_law 395 = .ok (.iload_n 3, 1) := by decide +kernel
theorem dL_law_396 : decode cL_law 396 = .ok (.iconst 3, 1) := by decide +kernel
theorem dL_law_397 : decode cL_law 397 = .ok (.iadd, 1) := by decide +kernel
theorem dL_law_398 : decode cL_law 398 = .ok (.iaload, 1) := by decide +kernel
theorem dL_law_399 : decode cL_law 399 = .ok (.invokevirtual 35, 3) := by decide +kernel
theorem dL_law_402 : decode cL_law 402 = .ok (.aload_n 2, 1) := by decide +kernel
theorem dL_law_403 : decode cL_law 403 = .ok (.aload_n 0, 1) := by decide +kernel
theorem dL_law_404 : decode cL_law 404 = .ok (.iload_n 3, 1) := by decide +kernel
theorem dL_law_405 : decode cL_law 405 = .ok (.iconst 1, 1) := by decide +kernel
theorem dL_law_406 : decode cL_law 406 = .ok (.iadd, 1) := by decide +kernel
theorem dL_law_407 : decode cL_law 407 = .ok (.iaload, 1) := by decide +kernel
theorem dL_law_408 : decode cL_law 408 = .ok (.aload_n 0, 1) := by decide +kernel
theorem dL_law_409 : decode cL_law 409 = .ok (.iload_n 3, 1) := by decide +kernel
theorem dL_law_410 : decode cL_law 410 = .ok (.iconst 2, 1) := by decide +kernel
theorem dL_law_411 : decode cL_law 411 = .ok (.iadd, 1) := by decide +kernel
theorem dL_law_412 : decode cL_law 412 = .ok (.iaload, 1) := by decide +kernel
theorem dL_law_413 : decode cL_law 413 = .ok (.aload_n 0, 1) := by decide +kernel
theorem dL_law_414 : decode cL_law 414 = .ok (.iload_n 3, 1) := by decide +kernel
theorem dL_law_415 : decode cL_law 415 = .ok (.iconst 3, 1) := by decide +kernel
theorem dL_law_416 : decode cL_law 416 = .ok (.iadd, 1) := by decide +kernel
theorem dL_law_417 : decode cL_law 417 = .ok (.iaload, 1) := by decide +kernel
theorem dL_law_418 : decode cL_law 418 = .ok (.invokevirtual 38, 3) := by decide +kernel
theorem dL_law_421 : decode cL_law 421 = .ok (.if_icmp .eq 984, 3) := by decide +kernel
theorem dL_law_424 : decode cL_law 424 = .ok (.iconst 0, 1) := by decide +kernel
theorem dL_law_425 : decode cL_law 425 = .ok (.ireturn, 1) := by decide +kernel
theorem dL_law_426 : decode cL_law 426 = .ok (.aload_n 1, 1) := by decide +kernel
theorem dL_law_427 : decode cL_law 427 = .ok (.aload_n 0, 1) := by decide +kernel
theorem dL_law_428 : decode cL_law 428 = .ok (.iload_n 3, 1) := by decide +kernel
theorem dL_law_429 : decode cL_law 429 = .ok (.iconst 1, 1) := by decide +kernel
theorem dL_law_430 : decode cL_law 430 = .ok (.iadd, 1) := by decide +kernel
theorem dL_law_431 : decode cL_law 431 = .ok (.iaload, 1) := by decide +kernel
theorem dL_law_432 : decode cL_law 432 = .ok (.invokevirtual 39, 3) := by decide +kernel
theorem dL_law_435 : decode cL_law 435 = .ok (.aload_n 2, 1) := by decide +kernel
theorem dL_law_436 : decode cL_law 436 = .ok (.aload_n 0, 1) := by decide +kernel
theorem dL_law_437 : decode cL_law 437 = .ok (.iload_n 3, 1) := by decide +kernel
theorem dL_law_438 : decode cL_law 438 = .ok (.iconst 1, 1) := by decide +kernel
theorem dL_law_439 : decode cL_law 439 = .ok (.iadd, 1) := by decide +kernel
theorem dL_law_440 : decode cL_law 440 = .ok (.iaload, 1) := by decide +kernel
theorem dL_law_441 : decode cL_law 441 = .ok (.invokevirtual 42, 3) := by decide +kernel
theorem dL_law_444 : decode cL_law 444 = .ok (.if_icmp .eq 961, 3) := by decide +kernel
theorem dL_law_447 : decode cL_law 447 = .ok (.iconst 0, 1) := by decide +kernel
theorem dL_law_448 : decode cL_law 448 = .ok (.ireturn, 1) := by decide +kernel
theorem dL_law_449 : decode cL_law 449 = .ok (.aload_n 1, 1) := by decide +kernel
theorem dL_law_450 : decode cL_law 450 = .ok (.aload_n 0, 1) := by decide +kernel
theorem dL_law_451 : decode cL_law 451 = .ok (.iload_n 3, 1) := by decide +kernel
theorem dL_law_452 : decode cL_law 452 = .ok (.iconst 1, 1) := by decide +kernel
theorem dL_law_453 : decode cL_law 453 = .ok (.iadd, 1) := by decide +kernel
theorem dL_law_454 : decode cL_law 454 = .ok (.iaload, 1) := by decide +kernel
theorem dL_law_455 : decode cL_law 455 = .ok (.aload_n 0, 1) := by decide +kernel
theorem dL_law_456 : decode cL_law 456 = .ok (.iload_n 3, 1) := by decide +kernel
theorem dL_law_457 : decode cL_law 457 = .ok (.iconst 2, 1) := by decide +kernel
theorem dL_law_458 : decode cL_law 458 = .ok (.iadd, 1) := by decide +kernel
theorem dL_law_459 : decode cL_law 459 = .ok (.iaload, 1) := by decide +kernel
theorem dL_law_460 : decode cL_law 460 = .ok (.invokevirtual 43, 3) := by decide +kernel
theorem dL_law_463 : decode cL_law 463 = .ok (.aload_n 2, 1) := by decide +kernel
theorem dL_law_464 : decode cL_law 464 = .ok (.aload_n 0, 1) := by decide +kernel
theorem dL_law_465 : decode cL_law 465 = .ok (.iload_n 3, 1) := by decide +kernel
theorem dL_law_466 : decode cL_law 466 = .ok (.iconst 1, 1) := by decide +kernel
theorem dL_law_467 : decode cL_law 467 = .ok (.iadd, 1) := by decide +kernel
theorem dL_law_468 : decode cL_law 468 = .ok (.iaload, 1) := by decide +kernel
theorem dL_law_469 : decode cL_law 469 = .ok (.aload_n 0, 1) := by decide +kernel
theorem dL_law_470 : decode cL_law 470 = .ok (.iload_n 3, 1) := by decide +kernel
theorem dL_law_471 : decode cL_law 471 = .ok (.iconst 2, 1) := by decide +kernel
theorem dL_law_472 : decode cL_law 472 = .ok (.iadd, 1) := by decide +kernel
theorem dL_law_473 : decode cL_law 473 = .ok (.iaload, 1) := by decide +kernel
theorem dL_law_474 : decode cL_law 474 = .ok (.invokevirtual 47, 3) := by decide +kernel
theorem dL_law_477 : decode cL_law 477 = .ok (.lcmp, 1) := by decide +kernel
theorem dL_law_478 : decode cL_law 478 = .ok (.ifCond .eq 927, 3) := by decide +kernel
theorem dL_law_481 : decode cL_law 481 = .ok (.iconst 0, 1) := by decide +kernel
theorem dL_law_482 : decode cL_law 482 = .ok (.ireturn, 1) := by decide +kernel
theorem dL_law_483 : decode cL_law 483 = .ok (.aload_n 1, 1) := by decide +kernel
theorem dL_law_484 : decode cL_law 484 = .ok (.aload_n 0, 1) := by decide +kernel
theorem dL_law_485 : decode cL_law 485 = .ok (.iload_n 3, 1) := by decide +kernel
theorem dL_law_486 : decode cL_law 486 = .ok (.iconst 1, 1) := by decide +kernel
theorem dL_law_487 : decode cL_law 487 = .ok (.iadd, 1) := by decide +kernel
theorem dL_law_488 : decode cL_law 488 = .ok (.iaload, 1) := by decide +kernel
theorem dL_law_489 : decode cL_law 489 = .ok (.invokevirtual 48, 3) := by decide +kernel
theorem dL_law_492 : decode cL_law 492 = .ok (.aload_n 2, 1) := by decide +kernel
theorem dL_law_493 : decode cL_law 493 = .ok (.aload_n 0, 1) := by decide +kernel
theorem dL_law_494 : decode cL_law 494 = .ok (.iload_n 3, 1) := by decide +kernel
theorem dL_law_495 : decode cL_law 495 = .ok (.iconst 1, 1) := by decide +kernel
theorem dL_law_496 : decode cL_law 496 = .ok (.iadd, 1) := by decide +kernel
theorem dL_law_497 : decode cL_law 497 = .ok (.iaload, 1) := by decide +kernel
theorem dL_law_498 : decode cL_law 498 = .ok (.invokevirtual 51, 3) := by decide +kernel
theorem dL_law_501 : decode cL_law 501 = .ok (.if_icmp .eq 904, 3) := by decide +kernel
theorem dL_law_504 : decode cL_law 504 = .ok (.iconst 0, 1) := by decide +kernel
theorem dL_law_505 : decode cL_law 505 = .ok (.ireturn, 1) := by decide +kernel
theorem dL_law_506 : decode cL_law 506 = .ok (.aload_n 1, 1) := by decide +kernel
theorem dL_law_507 : decode cL_law 507 = .ok (.aload_n 0, 1) := by decide +kernel
theorem dL_law_508 : decode cL_law 508 = .ok (.iload_n 3, 1) := by decide +kernel
theorem dL_law_509 : decode cL_law 509 = .ok (.iconst 1, 1) := by decide +kernel
theorem dL_law_510 : decode cL_law 510 = .ok (.iadd, 1) := by decide +kernel
theorem dL_law_511 : decode cL_law 511 = .ok (.iaload, 1) := by decide +kernel
theorem dL_law_512 : decode cL_law 512 = .ok (.invokevirtual 52, 3) := by decide +kernel
theorem dL_law_515 : decode cL_law 515 = .ok (.aload_n 2, 1) := by decide +kernel
theorem dL_law_516 : decode cL_law 516 = .ok (.aload_n 0, 1) := by decide +kernel
theorem dL_law_517 : decode cL_law 517 = .ok (.iload_n 3, 1) := by decide +kernel
theorem dL_law_518 : decode cL_law 518 = .ok (.iconst 1, 1) := by decide +kernel
theorem dL_law_519 : decode cL_law 519 = .ok (.iadd, 1) := by decide +kernel
theorem dL_law_520 : decode cL_law 520 = .ok (.iaload, 1) := by decide +kernel
theorem dL_law_521 : decode cL_law 521 = .ok (.invokevirtual 55, 3) := by decide +kernel
theorem dL_law_524 : decode cL_law 524 = .ok (.if_icmp .eq 881, 3) := by decide +kernel
theorem dL_law_527 : decode cL_law 527 = .ok (.iconst 0, 1) := by decide +kernel
theorem dL_law_528 : decode cL_law 528 = .ok (.ireturn, 1) := by decide +kernel
theorem dL_law_529 : decode cL_law 529 = .ok (.aload_n 1, 1) := by decide +kernel
theorem dL_law_530 : decode cL_law 530 = .ok (.aload_n 0, 1) := by decide +kernel
theorem dL_law_531 : decode cL_law 531 = .ok (.iload_n 3, 1) := by decide +kernel
theorem dL_law_532 : decode cL_law 532 = .ok (.iconst 1, 1) := by decide +kernel
theorem dL_law_533 : decode cL_law 533 = .ok (.iadd, 1) := by decide +kernel
theorem dL_law_534 : decode cL_law 534 = .ok (.iaload, 1) := by decide +kernel
theorem dL_law_535 : decode cL_law 535 = .ok (.aload_n 0, 1) := by decide +kernel
theorem dL_law_536 : decode cL_law 536 = .ok (.iload_n 3, 1) := by decide +kernel
theorem dL_law_537 : decode cL_law 537 = .ok (.iconst 2, 1) := by decide +kernel
theorem dL_law_538 : decode cL_law 538 = .ok (.iadd, 1) := by decide +kernel
theorem dL_law_539 : decode cL_law 539 = .ok (.iaload, 1) := by decide +kernel
theorem dL_law_540 : decode cL_law 540 = .ok (.invokevirtual 56, 3) := by decide +kernel
theorem dL_law_543 : decode cL_law 543 = .ok (.aload_n 2, 1) := by decide +kernel
theorem dL_law_544 : decode cL_law 544 = .ok (.aload_n 0, 1) := by decide +kernel
theorem dL_law_545 : decode cL_law 545 = .ok (.iload_n 3, 1) := by decide +kernel
theorem dL_law_546 : decode cL_law 546 = .ok (.iconst 1, 1) := by decide +kernel
theorem dL_law_547 : decode cL_law 547 = .ok (.iadd, 1) := by decide +kernel
theorem dL_law_548 : decode cL_law 548 = .ok (.iaload, 1) := by decide +kernel
theorem dL_law_549 : decode cL_law 549 = .ok (.aload_n 0, 1) := by decide +kernel
theorem dL_law_550 : decode cL_law 550 = .ok (.iload_n 3, 1) := by decide +kernel
theorem dL_law_551 : decode cL_law 551 = .ok (.iconst 2, 1) := by decide +kernel
theorem dL_law_552 : decode cL_law 552 = .ok (.iadd, 1) := by decide +kernel
theorem dL_law_553 : decode cL_law 553 = .ok (.iaload, 1) := by decide +kernel
theorem dL_law_554 : decode cL_law 554 = .ok (.invokevirtual 60, 3) := by decide +kernel
theorem dL_law_557 : decode cL_law 557 = .ok (.if_icmp .eq 848, 3) := by decide +kernel
theorem dL_law_560 : decode cL_law 560 = .ok (.iconst 0, 1) := by decide +kernel
theorem dL_law_561 : decode cL_law 561 = .ok (.ireturn, 1) := by decide +kernel
theorem dL_law_562 : decode cL_law 562 = .ok (.aload_n 1, 1) := by decide +kernel
theorem dL_law_563 : decode cL_law 563 = .ok (.aload_n 0, 1) := by decide +kernel
theorem dL_law_564 : decode cL_law 564 = .ok (.iload_n 3, 1) := by decide +kernel
theorem dL_law_565 : decode cL_law 565 = .ok (.iconst 1, 1) := by decide +kernel
theorem dL_law_566 : decode cL_law 566 = .ok (.iadd, 1) := by decide +kernel
theorem dL_law_567 : decode cL_law 567 = .ok (.iaload, 1) := by decide +kernel
theorem dL_law_568 : decode cL_law 568 = .ok (.aload_n 0, 1) := by decide +kernel
theorem dL_law_569 : decode cL_law 569 = .ok (.iload_n 3, 1) := by decide +kernel
theorem dL_law_570 : decode cL_law 570 = .ok (.iconst 2, 1) := by decide +kernel
theorem dL_law_571 : decode cL_law 571 = .ok (.iadd, 1) := by decide +kernel
theorem dL_law_572 : decode cL_law 572 = .ok (.iaload, 1) := by decide +kernel
theorem dL_law_573 : decode cL_law 573 = .ok (.invokevirtual 61, 3) := by decide +kernel
theorem dL_law_576 : decode cL_law 576 = .ok (.aload_n 2, 1) := by decide +kernel
theorem dL_law_577 : decode cL_law 577 = .ok (.aload_n 0, 1) := by decide +kernel
theorem dL_law_578 : decode cL_law 578 = .ok (.iload_n 3, 1) := by decide +kernel
theorem dL_law_579 : decode cL_law 579 = .ok (.iconst 1, 1) := by decide +kernel
theorem dL_law_580 : decode cL_law 580 = .ok (.iadd, 1) := by decide +kernel
theorem dL_law_581 : decode cL_law 581 = .ok (.iaload, 1) := by decide +kernel
theorem dL_law_582 : decode cL_law 582 = .ok (.aload_n 0, 1) := by decide +kernel
theorem dL_law_583 : decode cL_law 583 = .ok (.iload_n 3, 1) := by decide +kernel
theorem dL_law_584 : decode cL_law 584 = .ok (.iconst 2, 1) := by decide +kernel
theorem dL_law_585 : decode cL_law 585 = .ok (.iadd, 1) := by decide +kernel
theorem dL_law_586 : decode cL_law 586 = .ok (.iaload, 1) := by decide +kernel
theorem dL_law_587 : decode cL_law 587 = .ok (.invokevirtual 64, 3) := by decide +kernel
theorem dL_law_590 : decode cL_law 590 = .ok (.if_icmp .eq 815, 3) := by decide +kernel
theorem dL_law_593 : decode cL_law 593 = .ok (.iconst 0, 1) := by decide +kernel
theorem dL_law_594 : decode cL_law 594 = .ok (.ireturn, 1) := by decide +kernel
theorem dL_law_595 : decode cL_law 595 = .ok (.aload_n 1, 1) := by decide +kernel
theorem dL_law_596 : decode cL_law 596 = .ok (.aload_n 0, 1) := by decide +kernel
theorem dL_law_597 : decode cL_law 597 = .ok (.iload_n 3, 1) := by decide +kernel
theorem dL_law_598 : decode cL_law 598 = .ok (.iconst 1, 1) := by decide +kernel
theorem dL_law_599 : decode cL_law 599 = .ok (.iadd, 1) := by decide +kernel
theorem dL_law_600 : decode cL_law 600 = .ok (.iaload, 1) := by decide +kernel
theorem dL_law_601 : decode cL_law 601 = .ok (.aload_n 0, 1) := by decide +kernel
theorem dL_law_602 : decode cL_law 602 = .ok (.iload_n 3, 1) := by decide +kernel
theorem dL_law_603 : decode cL_law 603 = .ok (.iconst 2, 1) := by decide +kernel
theorem dL_law_604 : decode cL_law 604 = .ok (.iadd, 1) := by decide +kernel
theorem dL_law_605 : decode cL_law 605 = .ok (.iaload, 1) := by decide +kernel
theorem dL_law_606 : decode cL_law 606 = .ok (.invokevirtual 65, 3) := by decide +kernel
theorem dL_law_609 : decode cL_law 609 = .ok (.aload_n 2, 1) := by decide +kernel
theorem dL_law_610 : decode cL_law 610 = .ok (.aload_n 0, 1) := by decide +kernel
theorem dL_law_611 : decode cL_law 611 = .ok (.iload_n 3, 1) := by decide +kernel
theorem dL_law_612 : decode cL_law 612 = .ok (.iconst 1, 1) := by decide +kernel
theorem dL_law_613 : decode cL_law 613 = .ok (.iadd, 1) := by decide +kernel
theorem dL_law_614 : decode cL_law 614 = .ok (.iaload, 1) := by decide +kernel
theorem dL_law_615 : decode cL_law 615 = .ok (.aload_n 0, 1) := by decide +kernel
theorem dL_law_616 : decode cL_law 616 = .ok (.iload_n 3, 1) := by decide +kernel
theorem dL_law_617 : decode cL_law 617 = .ok (.iconst 2, 1) := by decide +kernel
theorem dL_law_618 : decode cL_law 618 = .ok (.iadd, 1) := by decide +kernel
theorem dL_law_619 : decode cL_law 619 = .ok (.iaload, 1) := by decide +kernel
theorem dL_law_620 : decode cL_law 620 = .ok (.invokevirtual 68, 3) := by decide +kernel
theorem dL_law_623 : decode cL_law 623 = .ok (.if_icmp .eq 782, 3) := by decide +kernel
theorem dL_law_626 : decode cL_law 626 = .ok (.iconst 0, 1) := by decide +kernel
theorem dL_law_627 : decode cL_law 627 = .ok (.ireturn, 1) := by decide +kernel
theorem dL_law_628 : decode cL_law 628 = .ok (.aload_n 1, 1) := by decide +kernel
theorem dL_law_629 : decode cL_law 629 = .ok (.aload_n 0, 1) := by decide +kernel
theorem dL_law_630 : decode cL_law 630 = .ok (.iload_n 3, 1) := by decide +kernel
theorem dL_law_631 : decode cL_law 631 = .ok (.iconst 1, 1) := by decide +kernel
theorem dL_law_632 : decode cL_law 632 = .ok (.iadd, 1) := by decide +kernel
theorem dL_law_633 : decode cL_law 633 = .ok (.iaload, 1) := by decide +kernel
theorem dL_law_634 : decode cL_law 634 = .ok (.invokevirtual 69, 3) := by decide +kernel
theorem dL_law_637 : decode cL_law 637 = .ok (.aload_n 2, 1) := by decide +kernel
theorem dL_law_638 : decode cL_law 638 = .ok (.aload_n 0, 1) := by decide +kernel
theorem dL_law_639 : decode cL_law 639 = .ok (.iload_n 3, 1) := by decide +kernel
theorem dL_law_640 : decode cL_law 640 = .ok (.iconst 1, 1) := by decide +kernel
theorem dL_law_641 : decode cL_law 641 = .ok (.iadd, 1) := by decide +kernel
theorem dL_law_642 : decode cL_law 642 = .ok (.iaload, 1) := by decide +kernel
theorem dL_law_643 : decode cL_law 643 = .ok (.invokevirtual 72, 3) := by decide +kernel
theorem dL_law_646 : decode cL_law 646 = .ok (.if_icmp .eq 759, 3) := by decide +kernel
theorem dL_law_649 : decode cL_law 649 = .ok (.iconst 0, 1) := by decide +kernel
theorem dL_law_650 : decode cL_law 650 = .ok (.ireturn, 1) := by decide +kernel
theorem dL_law_651 : decode cL_law 651 = .ok (.aload_n 1, 1) := by decide +kernel
theorem dL_law_652 : decode cL_law 652 = .ok (.aload_n 0, 1) := by decide +kernel
theorem dL_law_653 : decode cL_law 653 = .ok (.iload_n 3, 1) := by decide +kernel
theorem dL_law_654 : decode cL_law 654 = .ok (.iconst 1, 1) := by decide +kernel
theorem dL_law_655 : decode cL_law 655 = .ok (.iadd, 1) := by decide +kernel
theorem dL_law_656 : decode cL_law 656 = .ok (.iaload, 1) := by decide +kernel
theorem dL_law_657 : decode cL_law 657 = .ok (.aload_n 0, 1) := by decide +kernel
theorem dL_law_658 : decode cL_law 658 = .ok (.iload_n 3, 1) := by decide +kernel
theorem dL_law_659 : decode cL_law 659 = .ok (.iconst 2, 1) := by decide +kernel
theorem dL_law_660 : decode cL_law 660 = .ok (.iadd, 1) := by decide +kernel
theorem dL_law_661 : decode cL_law 661 = .ok (.iaload, 1) := by decide +kernel
theorem dL_law_662 : decode cL_law 662 = .ok (.aload_n 0, 1) := by decide +kernel
theorem dL_law_663 : decode cL_law 663 = .ok (.iload_n 3, 1) := by decide +kernel
theorem dL_law_664 : decode cL_law 664 = .ok (.iconst 3, 1) := by decide +kernel
theorem dL_law_665 : decode cL_law 665 = .ok (.iadd, 1) := by decide +kernel
theorem dL_law_666 : decode cL_law 666 = .ok (.iaload, 1) := by decide +kernel
theorem dL_law_667 : decode cL_law 667 = .ok (.invokevirtual 73, 3) := by decide +kernel
theorem dL_law_670 : decode cL_law 670 = .ok (.aload_n 2, 1) := by decide +kernel
theorem dL_law_671 : decode cL_law 671 = .ok (.aload_n 0, 1) := by decide +kernel
theorem dL_law_672 : decode cL_law 672 = .ok (.iload_n 3, 1) := by decide +kernel
theorem dL_law_673 : decode cL_law 673 = .ok (.iconst 1, 1) := by decide +kernel
theorem dL_law_674 : decode cL_law 674 = .ok (.iadd, 1) := by decide +kernel
theorem dL_law_675 : decode cL_law 675 = .ok (.iaload, 1) := by decide +kernel
theorem dL_law_676 : decode cL_law 676 = .ok (.aload_n 0, 1) := by decide +kernel
theorem dL_law_677 : decode cL_law 677 = .ok (.iload_n 3, 1) := by decide +kernel
theorem dL_law_678 : decode cL_law 678 = .ok (.iconst 2, 1) := by decide +kernel
theorem dL_law_679 : decode cL_law 679 = .ok (.iadd, 1) := by decide +kernel
theorem dL_law_680 : decode cL_law 680 = .ok (.iaload, 1) := by decide +kernel
theorem dL_law_681 : decode cL_law 681 = .ok (.aload_n 0, 1) := by decide +kernel
theorem dL_law_682 : decode cL_law 682 = .ok (.iload_n 3, 1) := by decide +kernel
theorem dL_law_683 : decode cL_law 683 = .ok (.iconst 3, 1) := by decide +kernel
theorem dL_law_684 : decode cL_law 684 = .ok (.iadd, 1) := by decide +kernel
theorem dL_law_685 : decode cL_law 685 = .ok (.iaload, 1) := by decide +kernel
theorem dL_law_686 : decode cL_law 686 = .ok (.invokevirtual 76, 3) := by decide +kernel
theorem dL_law_689 : decode cL_law 689 = .ok (.if_icmp .eq 716, 3) := by decide +kernel
theorem dL_law_692 : decode cL_law 692 = .ok (.iconst 0, 1) := by decide +kernel
theorem dL_law_693 : decode cL_law 693 = .ok (.ireturn, 1) := by decide +kernel
theorem dL_law_694 : decode cL_law 694 = .ok (.aload_n 1, 1) := by decide +kernel
theorem dL_law_695 : decode cL_law 695 = .ok (.aload_n 0, 1) := by decide +kernel
theorem dL_law_696 : decode cL_law 696 = .ok (.iload_n 3, 1) := by decide +kernel
theorem dL_law_697 : decode cL_law 697 = .ok (.iconst 1, 1) := by decide +kernel
theorem dL_law_698 : decode cL_law 698 = .ok (.iadd, 1) := by decide +kernel
theorem dL_law_699 : decode cL_law 699 = .ok (.iaload, 1) := by decide +kernel
theorem dL_law_700 : decode cL_law 700 = .ok (.aload_n 0, 1) := by decide +kernel
theorem dL_law_701 : decode cL_law 701 = .ok (.iload_n 3, 1) := by decide +kernel
theorem dL_law_702 : decode cL_law 702 = .ok (.iconst 2, 1) := by decide +kernel
theorem dL_law_703 : decode cL_law 703 = .ok (.iadd, 1) := by decide +kernel
theorem dL_law_704 : decode cL_law 704 = .ok (.iaload, 1) := by decide +kernel
theorem dL_law_705 : decode cL_law 705 = .ok (.aload_n 0, 1) := by decide +kernel
theorem dL_law_706 : decode cL_law 706 = .ok (.iload_n 3, 1) := by decide +kernel
theorem dL_law_707 : decode cL_law 707 = .ok (.iconst 3, 1) := by decide +kernel
theorem dL_law_708 : decode cL_law 708 = .ok (.iadd, 1) := by decide +kernel
theorem dL_law_709 : decode cL_law 709 = .ok (.iaload, 1) := by decide +kernel
theorem dL_law_710 : decode cL_law 710 = .ok (.invokevirtual 77, 3) := by decide +kernel
theorem dL_law_713 : decode cL_law 713 = .ok (.aload_n 2, 1) := by decide +kernel
theorem dL_law_714 : decode cL_law 714 = .ok (.aload_n 0, 1) := by decide +kernel
theorem dL_law_715 : decode cL_law 715 = .ok (.iload_n 3, 1) := by decide +kernel
theorem dL_law_716 : decode cL_law 716 = .ok (.iconst 1, 1) := by decide +kernel
theorem dL_law_717 : decode cL_law 717 = .ok (.iadd, 1) := by decide +kernel
theorem dL_law_718 : decode cL_law 718 = .ok (.iaload, 1) := by decide +kernel
theorem dL_law_719 : decode cL_law 719 = .ok (.aload_n 0, 1) := by decide +kernel
theorem dL_law_720 : decode cL_law 720 = .ok (.iload_n 3, 1) := by decide +kernel
theorem dL_law_721 : decode cL_law 721 = .ok (.iconst 2, 1) := by decide +kernel
theorem dL_law_722 : decode cL_law 722 = .ok (.iadd, 1) := by decide +kernel
theorem dL_law_723 : decode cL_law 723 = .ok (.iaload, 1) := by decide +kernel
theorem dL_law_724 : decode cL_law 724 = .ok (.aload_n 0, 1) := by decide +kernel
theorem dL_law_725 : decode cL_law 725 = .ok (.iload_n 3, 1) := by decide +kernel
theorem dL_law_726 : decode cL_law 726 = .ok (.iconst 3, 1) := by decide +kernel
theorem dL_law_727 : decode cL_law 727 = .ok (.iadd, 1) := by decide +kernel
theorem dL_law_728 : decode cL_law 728 = .ok (.iaload, 1) := by decide +kernel
theorem dL_law_729 : decode cL_law 729 = .ok (.invokevirtual 80, 3) := by decide +kernel
theorem dL_law_732 : decode cL_law 732 = .ok (.if_icmp .eq 673, 3) := by decide +kernel
theorem dL_law_735 : decode cL_law 735 = .ok (.iconst 0, 1) := by decide +kernel
theorem dL_law_736 : decode cL_law 736 = .ok (.ireturn, 1) := by decide +kernel
theorem dL_law_737 : decode cL_law 737 = .ok (.aload_n 1, 1) := by decide +kernel
theorem dL_law_738 : decode cL_law 738 = .ok (.aload_n 0, 1) := by decide +kernel
theorem dL_law_739 : decode cL_law 739 = .ok (.iload_n 3, 1) := by decide +kernel
theorem dL_law_740 : decode cL_law 740 = .ok (.iconst 1, 1) := by decide +kernel
theorem dL_law_741 : decode cL_law 741 = .ok (.iadd, 1) := by decide +kernel
theorem dL_law_742 : decode cL_law 742 = .ok (.iaload, 1) := by decide +kernel
theorem dL_law_743 : decode cL_law 743 = .ok (.aload_n 0, 1) := by decide +kernel
theorem dL_law_744 : decode cL_law 744 = .ok (.iload_n 3, 1) := by decide +kernel
theorem dL_law_745 : decode cL_law 745 = .ok (.iconst 2, 1) := by decide +kernel
theorem dL_law_746 : decode cL_law 746 = .ok (.iadd, 1) := by decide +kernel
theorem dL_law_747 : decode cL_law 747 = .ok (.iaload, 1) := by decide +kernel
theorem dL_law_748 : decode cL_law 748 = .ok (.invokevirtual 81, 3) := by decide +kernel
theorem dL_law_751 : decode cL_law 751 = .ok (.aload_n 2, 1) := by decide +kernel
theorem dL_law_752 : decode cL_law 752 = .ok (.aload_n 0, 1) := by decide +kernel
theorem dL_law_753 : decode cL_law 753 = .ok (.iload_n 3, 1) := by decide +kernel
theorem dL_law_754 : decode cL_law 754 = .ok (.iconst 1, 1) := by decide +kernel
theorem dL_law_755 : decode cL_law 755 = .ok (.iadd, 1) := by decide +kernel
theorem dL_law_756 : decode cL_law 756 = .ok (.iaload, 1) := by decide +kernel
theorem dL_law_757 : decode cL_law 757 = .ok (.aload_n 0, 1) := by decide +kernel
theorem dL_law_758 : decode cL_law 758 = .ok (.iload_n 3, 1) := by decide +kernel
theorem dL_law_759 : decode cL_law 759 = .ok (.iconst 2, 1) := by decide +kernel
theorem dL_law_760 : decode cL_law 760 = .ok (.iadd, 1) := by decide +kernel
theorem dL_law_761 : decode cL_law 761 = .ok (.iaload, 1) := by decide +kernel
theorem dL_law_762 : decode cL_law 762 = .ok (.invokevirtual 84, 3) := by decide +kernel
theorem dL_law_765 : decode cL_law 765 = .ok (.if_icmp .eq 640, 3) := by decide +kernel
theorem dL_law_768 : decode cL_law 768 = .ok (.iconst 0, 1) := by decide +kernel
theorem dL_law_769 : decode cL_law 769 = .ok (.ireturn, 1) := by decide +kernel
theorem dL_law_770 : decode cL_law 770 = .ok (.aload_n 1, 1) := by decide +kernel
theorem dL_law_771 : decode cL_law 771 = .ok (.aload_n 0, 1) := by decide +kernel
theorem dL_law_772 : decode cL_law 772 = .ok (.iload_n 3, 1) := by decide +kernel
theorem dL_law_773 : decode cL_law 773 = .ok (.iconst 1, 1) := by decide +kernel
theorem dL_law_774 : decode cL_law 774 = .ok (.iadd, 1) := by decide +kernel
theorem dL_law_775 : decode cL_law 775 = .ok (.iaload, 1) := by decide +kernel
theorem dL_law_776 : decode cL_law 776 = .ok (.aload_n 0, 1) := by decide +kernel
theorem dL_law_777 : decode cL_law 777 = .ok (.iload_n 3, 1) := by decide +kernel
theorem dL_law_778 : decode cL_law 778 = .ok (.iconst 2, 1) := by decide +kernel
theorem dL_law_779 : decode cL_law 779 = .ok (.iadd, 1) := by decide +kernel
theorem dL_law_780 : decode cL_law 780 = .ok (.iaload, 1) := by decide +kernel
theorem dL_law_781 : decode cL_law 781 = .ok (.aload_n 0, 1) := by decide +kernel
theorem dL_law_782 : decode cL_law 782 = .ok (.iload_n 3, 1) := by decide +kernel
theorem dL_law_783 : decode cL_law 783 = .ok (.iconst 3, 1) := by decide +kernel
theorem dL_law_784 : decode cL_law 784 = .ok (.iadd, 1) := by decide +kernel
theorem dL_law_785 : decode cL_law 785 = .ok (.iaload, 1) := by decide +kernel
theorem dL_law_786 : decode cL_law 786 = .ok (.aload_n 0, 1) := by decide +kernel
theorem dL_law_787 : decode cL_law 787 = .ok (.iload_n 3, 1) := by decide +kernel
theorem dL_law_788 : decode cL_law 788 = .ok (.iconst 4, 1) := by decide +kernel
theorem dL_law_789 : decode cL_law 789 = .ok (.iadd, 1) := by decide +kernel
theorem dL_law_790 : decode cL_law 790 = .ok (.iaload, 1) := by decide +kernel
theorem dL_law_791 : decode cL_law 791 = .ok (.aload_n 0, 1) := by decide +kernel
theorem dL_law_792 : decode cL_law 792 = .ok (.iload_n 3, 1) := by decide +kernel
theorem dL_law_793 : decode cL_law 793 = .ok (.iconst 5, 1) := by decide +kernel
theorem dL_law_794 : decode cL_law 794 = .ok (.iadd, 1) := by decide +kernel
theorem dL_law_795 : decode cL_law 795 = .ok (.iaload, 1) := by decide +kernel
theorem dL_law_796 : decode cL_law 796 = .ok (.invokevirtual 85, 3) := by decide +kernel
theorem dL_law_799 : decode cL_law 799 = .ok (.aload_n 2, 1) := by decide +kernel
theorem dL_law_800 : decode cL_law 800 = .ok (.aload_n 0, 1) := by decide +kernel
theorem dL_law_801 : decode cL_law 801 = .ok (.iload_n 3, 1) := by decide +kernel
theorem dL_law_802 : decode cL_law 802 = .ok (.iconst 1, 1) := by decide +kernel
theorem dL_law_803 : decode cL_law 803 = .ok (.iadd, 1) := by decide +kernel
theorem dL_law_804 : decode cL_law 804 = .ok (.iaload, 1) := by decide +kernel
theorem dL_law_805 : decode cL_law 805 = .ok (.aload_n 0, 1) := by decide +kernel
theorem dL_law_806 : decode cL_law 806 = .ok (.iload_n 3, 1) := by decide +kernel
theorem dL_law_807 : decode cL_law 807 = .ok (.iconst 2, 1) := by decide +kernel
theorem dL_law_808 : decode cL_law 808 = .ok (.iadd, 1) := by decide +kernel
theorem dL_law_809 : decode cL_law 809 = .ok (.iaload, 1) := by decide +kernel
theorem dL_law_810 : decode cL_law 810 = .ok (.aload_n 0, 1) := by decide +kernel
theorem dL_law_811 : decode cL_law 811 = .ok (.iload_n 3, 1) := by decide +kernel
theorem dL_law_812 : decode cL_law 812 = .ok (.iconst 3, 1) := by decide +kernel
theorem dL_law_813 : decode cL_law 813 = .ok (.iadd, 1) := by decide +kernel
theorem dL_law_814 : decode cL_law 814 = .ok (.iaload, 1) := by decide +kernel
theorem dL_law_815 : decode cL_law 815 = .ok (.aload_n 0, 1) := by decide +kernel
theorem dL_law_816 : decode cL_law 816 = .ok (.iload_n 3, 1) := by decide +kernel
theorem dL_law_817 : decode cL_law 817 = .ok (.iconst 4, 1) := by decide +kernel
theorem dL_law_818 : decode cL_law 818 = .ok (.iadd, 1) := by decide +kernel
theorem dL_law_819 : decode cL_law 819 = .ok (.iaload, 1) := by decide +kernel
theorem dL_law_820 : decode cL_law 820 = .ok (.aload_n 0, 1) := by decide +kernel
theorem dL_law_821 : decode cL_law 821 = .ok (.iload_n 3, 1) := by decide +kernel
theorem dL_law_822 : decode cL_law 822 = .ok (.iconst 5, 1) := by decide +kernel
theorem dL_law_823 : decode cL_law 823 = .ok (.iadd, 1) := by decide +kernel
theorem dL_law_824 : decode cL_law 824 = .ok (.iaload, 1) := by decide +kernel
theorem dL_law_825 : decode cL_law 825 = .ok (.invokevirtual 88, 3) := by decide +kernel
theorem dL_law_828 : decode cL_law 828 = .ok (.if_icmp .eq 577, 3) := by decide +kernel
theorem dL_law_831 : decode cL_law 831 = .ok (.iconst 0, 1) := by decide +kernel
theorem dL_law_832 : decode cL_law 832 = .ok (.ireturn, 1) := by decide +kernel
theorem dL_law_833 : decode cL_law 833 = .ok (.aload_n 1, 1) := by decide +kernel
theorem dL_law_834 : decode cL_law 834 = .ok (.aload_n 0, 1) := by decide +kernel
theorem dL_law_835 : decode cL_law 835 = .ok (.iload_n 3, 1) := by decide +kernel
theorem dL_law_836 : decode cL_law 836 = .ok (.iconst 1, 1) := by decide +kernel
theorem dL_law_837 : decode cL_law 837 = .ok (.iadd, 1) := by decide +kernel
theorem dL_law_838 : decode cL_law 838 = .ok (.iaload, 1) := by decide +kernel
theorem dL_law_839 : decode cL_law 839 = .ok (.aload_n 0, 1) := by decide +kernel
theorem dL_law_840 : decode cL_law 840 = .ok (.iload_n 3, 1) := by decide +kernel
theorem dL_law_841 : decode cL_law 841 = .ok (.iconst 2, 1) := by decide +kernel
theorem dL_law_842 : decode cL_law 842 = .ok (.iadd, 1) := by decide +kernel
theorem dL_law_843 : decode cL_law 843 = .ok (.iaload, 1) := by decide +kernel
theorem dL_law_844 : decode cL_law 844 = .ok (.aload_n 0, 1) := by decide +kernel
theorem dL_law_845 : decode cL_law 845 = .ok (.iload_n 3, 1) := by decide +kernel
theorem dL_law_846 : decode cL_law 846 = .ok (.iconst 3, 1) := by decide +kernel
theorem dL_law_847 : decode cL_law 847 = .ok (.iadd, 1) := by decide +kernel
theorem dL_law_848 : decode cL_law 848 = .ok (.iaload, 1) := by decide +kernel
theorem dL_law_849 : decode cL_law 849 = .ok (.aload_n 0, 1) := by decide +kernel
theorem dL_law_850 : decode cL_law 850 = .ok (.iload_n 3, 1) := by decide +kernel
theorem dL_law_851 : decode cL_law 851 = .ok (.iconst 4, 1) := by decide +kernel
theorem dL_law_852 : decode cL_law 852 = .ok (.iadd, 1) := by decide +kernel
theorem dL_law_853 : decode cL_law 853 = .ok (.iaload, 1) := by decide +kernel
theorem dL_law_854 : decode cL_law 854 = .ok (.invokevirtual 89, 3) := by decide +kernel
theorem dL_law_857 : decode cL_law 857 = .ok (.aload_n 2, 1) := by decide +kernel
theorem dL_law_858 : decode cL_law 858 = .ok (.aload_n 0, 1) := by decide +kernel
theorem dL_law_859 : decode cL_law 859 = .ok (.iload_n 3, 1) := by decide +kernel
theorem dL_law_860 : decode cL_law 860 = .ok (.iconst 1, 1) := by decide +kernel
theorem dL_law_861 : decode cL_law 861 = .ok (.iadd, 1) := by decide +kernel
theorem dL_law_862 : decode cL_law 862 = .ok (.iaload, 1) := by decide +kernel
theorem dL_law_863 : decode cL_law 863 = .ok (.aload_n 0, 1) := by decide +kernel
theorem dL_law_864 : decode cL_law 864 = .ok (.iload_n 3, 1) := by decide +kernel
theorem dL_law_865 : decode cL_law 865 = .ok (.iconst 2, 1) := by decide +kernel
theorem dL_law_866 : decode cL_law 866 = .ok (.iadd, 1) := by decide +kernel
theorem dL_law_867 : decode cL_law 867 = .ok (.iaload, 1) := by decide +kernel
theorem dL_law_868 : decode cL_law 868 = .ok (.aload_n 0, 1) := by decide +kernel
theorem dL_law_869 : decode cL_law 869 = .ok (.iload_n 3, 1) := by decide +kernel
theorem dL_law_870 : decode cL_law 870 = .ok (.iconst 3, 1) := by decide +kernel
theorem dL_law_871 : decode cL_law 871 = .ok (.iadd, 1) := by decide +kernel
theorem dL_law_872 : decode cL_law 872 = .ok (.iaload, 1) := by decide +kernel
theorem dL_law_873 : decode cL_law 873 = .ok (.aload_n 0, 1) := by decide +kernel
theorem dL_law_874 : decode cL_law 874 = .ok (.iload_n 3, 1) := by decide +kernel
theorem dL_law_875 : decode cL_law 875 = .ok (.iconst 4, 1) := by decide +kernel
theorem dL_law_876 : decode cL_law 876 = .ok (.iadd, 1) := by decide +kernel
theorem dL_law_877 : decode cL_law 877 = .ok (.iaload, 1) := by decide +kernel
theorem dL_law_878 : decode cL_law 878 = .ok (.invokevirtual 93, 3) := by decide +kernel
theorem dL_law_881 : decode cL_law 881 = .ok (.if_icmp .eq 524, 3) := by decide +kernel
theorem dL_law_884 : decode cL_law 884 = .ok (.iconst 0, 1) := by decide +kernel
theorem dL_law_885 : decode cL_law 885 = .ok (.ireturn, 1) := by decide +kernel
theorem dL_law_886 : decode cL_law 886 = .ok (.aload_n 1, 1) := by decide +kernel
theorem dL_law_887 : decode cL_law 887 = .ok (.aload_n 0, 1) := by decide +kernel
theorem dL_law_888 : decode cL_law 888 = .ok (.iload_n 3, 1) := by decide +kernel
theorem dL_law_889 : decode cL_law 889 = .ok (.iconst 1, 1) := by decide +kernel
theorem dL_law_890 : decode cL_law 890 = .ok (.iadd, 1) := by decide +kernel
theorem dL_law_891 : decode cL_law 891 = .ok (.iaload, 1) := by decide +kernel
theorem dL_law_892 : decode cL_law 892 = .ok (.aload_n 0, 1) := by decide +kernel
theorem dL_law_893 : decode cL_law 893 = .ok (.iload_n 3, 1) := by decide +kernel
theorem dL_law_894 : decode cL_law 894 = .ok (.iconst 2, 1) := by decide +kernel
theorem dL_law_895 : decode cL_law 895 = .ok (.iadd, 1) := by decide +kernel
theorem dL_law_896 : decode cL_law 896 = .ok (.iaload, 1) := by decide +kernel
theorem dL_law_897 : decode cL_law 897 = .ok (.aload_n 0, 1) := by decide +kernel
theorem dL_law_898 : decode cL_law 898 = .ok (.iload_n 3, 1) := by decide +kernel
theorem dL_law_899 : decode cL_law 899 = .ok (.iconst 3, 1) := by decide +kernel
theorem dL_law_900 : decode cL_law 900 = .ok (.iadd, 1) := by decide +kernel
theorem dL_law_901 : decode cL_law 901 = .ok (.iaload, 1) := by decide +kernel
theorem dL_law_902 : decode cL_law 902 = .ok (.invokevirtual 94, 3) := by decide +kernel
theorem dL_law_905 : decode cL_law 905 = .ok (.aload_n 2, 1) := by decide +kernel
theorem dL_law_906 : decode cL_law 906 = .ok (.aload_n 0, 1) := by decide +kernel
theorem dL_law_907 : decode cL_law 907 = .ok (.iload_n 3, 1) := by decide +kernel
theorem dL_law_908 : decode cL_law 908 = .ok (.iconst 1, 1) := by decide +kernel
theorem dL_law_909 : decode cL_law 909 = .ok (.iadd, 1) := by decide +kernel
theorem dL_law_910 : decode cL_law 910 = .ok (.iaload, 1) := by decide +kernel
theorem dL_law_911 : decode cL_law 911 = .ok (.aload_n 0, 1) := by decide +kernel
theorem dL_law_912 : decode cL_law 912 = .ok (.iload_n 3, 1) := by decide +kernel
theorem dL_law_913 : decode cL_law 913 = .ok (.iconst 2, 1) := by decide +kernel
theorem dL_law_914 : decode cL_law 914 = .ok (.iadd, 1) := by decide +kernel
theorem dL_law_915 : decode cL_law 915 = .ok (.iaload, 1) := by decide +kernel
theorem dL_law_916 : decode cL_law 916 = .ok (.aload_n 0, 1) := by decide +kernel
theorem dL_law_917 : decode cL_law 917 = .ok (.iload_n 3, 1) := by decide +kernel
theorem dL_law_918 : decode cL_law 918 = .ok (.iconst 3, 1) := by decide +kernel
theorem dL_law_919 : decode cL_law 919 = .ok (.iadd, 1) := by decide +kernel
theorem dL_law_920 : decode cL_law 920 = .ok (.iaload, 1) := by decide +kernel
theorem dL_law_921 : decode cL_law 921 = .ok (.invokevirtual 97, 3) := by decide +kernel
theorem dL_law_924 : decode cL_law 924 = .ok (.if_icmp .eq 481, 3) := by decide +kernel
theorem dL_law_927 : decode cL_law 927 = .ok (.iconst 0, 1) := by decide +kernel
theorem dL_law_928 : decode cL_law 928 = .ok (.ireturn, 1) := by decide +kernel
theorem dL_law_929 : decode cL_law 929 = .ok (.aload_n 1, 1) := by decide +kernel
theorem dL_law_930 : decode cL_law 930 = .ok (.aload_n 0, 1) := by decide +kernel
theorem dL_law_931 : decode cL_law 931 = .ok (.iload_n 3, 1) := by decide +kernel
theorem dL_law_932 : decode cL_law 932 = .ok (.iconst 1, 1) := by decide +kernel
theorem dL_law_933 : decode cL_law 933 = .ok (.iadd, 1) := by decide +kernel
theorem dL_law_934 : decode cL_law 934 = .ok (.iaload, 1) := by decide +kernel
theorem dL_law_935 : decode cL_law 935 = .ok (.aload_n 0, 1) := by decide +kernel
theorem dL_law_936 : decode cL_law 936 = .ok (.iload_n 3, 1) := by decide +kernel
theorem dL_law_937 : decode cL_law 937 = .ok (.iconst 2, 1) := by decide +kernel
theorem dL_law_938 : decode cL_law 938 = .ok (.iadd, 1) := by decide +kernel
theorem dL_law_939 : decode cL_law 939 = .ok (.iaload, 1) := by decide +kernel
theorem dL_law_940 : decode cL_law 940 = .ok (.invokevirtual 98, 3) := by decide +kernel
theorem dL_law_943 : decode cL_law 943 = .ok (.aload_n 2, 1) := by decide +kernel
theorem dL_law_944 : decode cL_law 944 = .ok (.aload_n 0, 1) := by decide +kernel
theorem dL_law_945 : decode cL_law 945 = .ok (.iload_n 3, 1) := by decide +kernel
theorem dL_law_946 : decode cL_law 946 = .ok (.iconst 1, 1) := by decide +kernel
theorem dL_law_947 : decode cL_law 947 = .ok (.iadd, 1) := by decide +kernel
theorem dL_law_948 : decode cL_law 948 = .ok (.iaload, 1) := by decide +kernel
theorem dL_law_949 : decode cL_law 949 = .ok (.aload_n 0, 1) := by decide +kernel
theorem dL_law_950 : decode cL_law 950 = .ok (.iload_n 3, 1) := by decide +kernel
theorem dL_law_951 : decode cL_law 951 = .ok (.iconst 2, 1) := by decide +kernel
theorem dL_law_952 : decode cL_law 952 = .ok (.iadd, 1) := by decide +kernel
theorem dL_law_953 : decode cL_law 953 = .ok (.iaload, 1) := by decide +kernel
theorem dL_law_954 : decode cL_law 954 = .ok (.invokevirtual 101, 3) := by decide +kernel
theorem dL_law_957 : decode cL_law 957 = .ok (.if_icmp .eq 448, 3) := by decide +kernel
theorem dL_law_960 : decode cL_law 960 = .ok (.iconst 0, 1) := by decide +kernel
theorem dL_law_961 : decode cL_law 961 = .ok (.ireturn, 1) := by decide +kernel
theorem dL_law_962 : decode cL_law 962 = .ok (.aload_n 1, 1) := by decide +kernel
theorem dL_law_963 : decode cL_law 963 = .ok (.aload_n 0, 1) := by decide +kernel
theorem dL_law_964 : decode cL_law 964 = .ok (.iload_n 3, 1) := by decide +kernel
theorem dL_law_965 : decode cL_law 965 = .ok (.iconst 1, 1) := by decide +kernel
theorem dL_law_966 : decode cL_law 966 = .ok (.iadd, 1) := by decide +kernel
theorem dL_law_967 : decode cL_law 967 = .ok (.iaload, 1) := by decide +kernel
theorem dL_law_968 : decode cL_law 968 = .ok (.aload_n 0, 1) := by decide +kernel
theorem dL_law_969 : decode cL_law 969 = .ok (.iload_n 3, 1) := by decide +kernel
theorem dL_law_970 : decode cL_law 970 = .ok (.iconst 2, 1) := by decide +kernel
theorem dL_law_971 : decode cL_law 971 = .ok (.iadd, 1) := by decide +kernel
theorem dL_law_972 : decode cL_law 972 = .ok (.iaload, 1) := by decide +kernel
theorem dL_law_973 : decode cL_law 973 = .ok (.aload_n 0, 1) := by decide +kernel
theorem dL_law_974 : decode cL_law 974 = .ok (.iload_n 3, 1) := by decide +kernel
theorem dL_law_975 : decode cL_law 975 = .ok (.iconst 3, 1) := by decide +kernel
theorem dL_law_976 : decode cL_law 976 = .ok (.iadd, 1) := by decide +kernel
theorem dL_law_977 : decode cL_law 977 = .ok (.iaload, 1) := by decide +kernel
theorem dL_law_978 : decode cL_law 978 = .ok (.invokevirtual 102, 3) := by decide +kernel
theorem dL_law_981 : decode cL_law 981 = .ok (.aload_n 2, 1) := by decide +kernel
theorem dL_law_982 : decode cL_law 982 = .ok (.aload_n 0, 1) := by decide +kernel
theorem dL_law_983 : decode cL_law 983 = .ok (.iload_n 3, 1) := by decide +kernel
theorem dL_law_984 : decode cL_law 984 = .ok (.iconst 1, 1) := by decide +kernel
theorem dL_law_985 : decode cL_law 985 = .ok (.iadd, 1) := by decide +kernel
theorem dL_law_986 : decode cL_law 986 = .ok (.iaload, 1) := by decide +kernel
theorem dL_law_987 : decode cL_law 987 = .ok (.aload_n 0, 1) := by decide +kernel
theorem dL_law_988 : decode cL_law 988 = .ok (.iload_n 3, 1) := by decide +kernel
theorem dL_law_989 : decode cL_law 989 = .ok (.iconst 2, 1) := by decide +kernel
theorem dL_law_990 : decode cL_law 990 = .ok (.iadd, 1) := by decide +kernel
theorem dL_law_991 : decode cL_law 991 = .ok (.iaload, 1) := by decide +kernel
theorem dL_law_992 : decode cL_law 992 = .ok (.aload_n 0, 1) := by decide +kernel
theorem dL_law_993 : decode cL_law 993 = .ok (.iload_n 3, 1) := by decide +kernel
theorem dL_law_994 : decode cL_law 994 = .ok (.iconst 3, 1) := by decide +kernel
theorem dL_law_995 : decode cL_law 995 = .ok (.iadd, 1) := by decide +kernel
theorem dL_law_996 : decode cL_law 996 = .ok (.iaload, 1) := by decide +kernel
theorem dL_law_997 : decode cL_law 997 = .ok (.invokevirtual 105, 3) := by decide +kernel
theorem dL_law_1000 : decode cL_law 1000 = .ok (.if_icmp .eq 405, 3) := by decide +kernel
theorem dL_law_1003 : decode cL_law 1003 = .ok (.iconst 0, 1) := by decide +kernel
theorem dL_law_1004 : decode cL_law 1004 = .ok (.ireturn, 1) := by decide +kernel
theorem dL_law_1005 : decode cL_law 1005 = .ok (.aload_n 1, 1) := by decide +kernel
theorem dL_law_1006 : decode cL_law 1006 = .ok (.aload_n 0, 1) := by decide +kernel
theorem dL_law_1007 : decode cL_law 1007 = .ok (.iload_n 3, 1) := by decide +kernel
theorem dL_law_1008 : decode cL_law 1008 = .ok (.iconst 1, 1) := by decide +kernel
theorem dL_law_1009 : decode cL_law 1009 = .ok (.iadd, 1) := by decide +kernel
theorem dL_law_1010 : decode cL_law 1010 = .ok (.iaload, 1) := by decide +kernel
theorem dL_law_1011 : decode cL_law 1011 = .ok (.invokevirtual 106, 3) := by decide +kernel
theorem dL_law_1014 : decode cL_law 1014 = .ok (.aload_n 2, 1) := by decide +kernel
theorem dL_law_1015 : decode cL_law 1015 = .ok (.aload_n 0, 1) := by decide +kernel
theorem dL_law_1016 : decode cL_law 1016 = .ok (.iload_n 3, 1) := by decide +kernel
theorem dL_law_1017 : decode cL_law 1017 = .ok (.iconst 1, 1) := by decide +kernel
theorem dL_law_1018 : decode cL_law 1018 = .ok (.iadd, 1) := by decide +kernel
theorem dL_law_1019 : decode cL_law 1019 = .ok (.iaload, 1) := by decide +kernel
theorem dL_law_1020 : decode cL_law 1020 = .ok (.invokevirtual 109, 3) := by decide +kernel
theorem dL_law_1023 : decode cL_law 1023 = .ok (.if_icmp .eq 382, 3) := by decide +kernel
theorem dL_law_1026 : decode cL_law 1026 = .ok (.iconst 0, 1) := by decide +kernel
theorem dL_law_1027 : decode cL_law 1027 = .ok (.ireturn, 1) := by decide +kernel
theorem dL_law_1028 : decode cL_law 1028 = .ok (.aload_n 1, 1) := by decide +kernel
theorem dL_law_1029 : decode cL_law 1029 = .ok (.aload_n 0, 1) := by decide +kernel
theorem dL_law_1030 : decode cL_law 1030 = .ok (.iload_n 3, 1) := by decide +kernel
theorem dL_law_1031 : decode cL_law 1031 = .ok (.iconst 1, 1) := by decide +kernel
theorem dL_law_1032 : decode cL_law 1032 = .ok (.iadd, 1) := by decide +kernel
theorem dL_law_1033 : decode cL_law 1033 = .ok (.iaload, 1) := by decide +kernel
theorem dL_law_1034 : decode cL_law 1034 = .ok (.aload_n 0, 1) := by decide +kernel
theorem dL_law_1035 : decode cL_law 1035 = .ok (.iload_n 3, 1) := by decide +kernel
theorem dL_law_1036 : decode cL_law 1036 = .ok (.iconst 2, 1) := by decide +kernel
theorem dL_law_1037 : decode cL_law 1037 = .ok (.iadd, 1) := by decide +kernel
theorem dL_law_1038 : decode cL_law 1038 = .ok (.iaload, 1) := by decide +kernel
theorem dL_law_1039 : decode cL_law 1039 = .ok (.aload_n 0, 1) := by decide +kernel
theorem dL_law_1040 : decode cL_law 1040 = .ok (.iload_n 3, 1) := by decide +kernel
theorem dL_law_1041 : decode cL_law 1041 = .ok (.iconst 3, 1) := by decide +kernel
theorem dL_law_1042 : decode cL_law 1042 = .ok (.iadd, 1) := by decide +kernel
theorem dL_law_1043 : decode cL_law 1043 = .ok (.iaload, 1) := by decide +kernel
theorem dL_law_1044 : decode cL_law 1044 = .ok (.invokevirtual 110, 3) := by decide +kernel
theorem dL_law_1047 : decode cL_law 1047 = .ok (.aload_n 2, 1) := by decide +kernel
theorem dL_law_1048 : decode cL_law 1048 = .ok (.aload_n 0, 1) := by decide +kernel
theorem dL_law_1049 : decode cL_law 1049 = .ok (.iload_n 3, 1) := by decide +kernel
theorem dL_law_1050 : decode cL_law 1050 = .ok (.iconst 1, 1) := by decide +kernel
theorem dL_law_1051 : decode cL_law 1051 = .ok (.iadd, 1) := by decide +kernel
theorem dL_law_1052 : decode cL_law 1052 = .ok (.iaload, 1) := by decide +kernel
theorem dL_law_1053 : decode cL_law 1053 = .ok (.aload_n 0, 1) := by decide +kernel
theorem dL_law_1054 : decode cL_law 1054 = .ok (.iload_n 3, 1) := by decide +kernel
theorem dL_law_1055 : decode cL_law 1055 = .ok (.iconst 2, 1) := by decide +kernel
theorem dL_law_1056 : decode cL_law 1056 = .ok (.iadd, 1) := by decide +kernel
theorem dL_law_1057 : decode cL_law 1057 = .ok (.iaload, 1) := by decide +kernel
theorem dL_law_1058 : decode cL_law 1058 = .ok (.aload_n 0, 1) := by decide +kernel
theorem dL_law_1059 : decode cL_law 1059 = .ok (.iload_n 3, 1) := by decide +kernel
theorem dL_law_1060 : decode cL_law 1060 = .ok (.iconst 3, 1) := by decide +kernel
theorem dL_law_1061 : decode cL_law 1061 = .ok (.iadd, 1) := by decide +kernel
theorem dL_law_1062 : decode cL_law 1062 = .ok (.iaload, 1) := by decide +kernel
theorem dL_law_1063 : decode cL_law 1063 = .ok (.invokevirtual 113, 3) := by decide +kernel
theorem dL_law_1066 : decode cL_law 1066 = .ok (.if_icmp .eq 339, 3) := by decide +kernel
theorem dL_law_1069 : decode cL_law 1069 = .ok (.iconst 0, 1) := by decide +kernel
theorem dL_law_1070 : decode cL_law 1070 = .ok (.ireturn, 1) := by decide +kernel
theorem dL_law_1071 : decode cL_law 1071 = .ok (.aload_n 1, 1) := by decide +kernel
theorem dL_law_1072 : decode cL_law 1072 = .ok (.aload_n 0, 1) := by decide +kernel
theorem dL_law_1073 : decode cL_law 1073 = .ok (.iload_n 3, 1) := by decide +kernel
theorem dL_law_1074 : decode cL_law 1074 = .ok (.iconst 1, 1) := by decide +kernel
theorem dL_law_1075 : decode cL_law 1075 = .ok (.iadd, 1) := by decide +kernel
theorem dL_law_1076 : decode cL_law 1076 = .ok (.iaload, 1) := by decide +kernel
theorem dL_law_1077 : decode cL_law 1077 = .ok (.invokevirtual 114, 3) := by decide +kernel
theorem dL_law_1080 : decode cL_law 1080 = .ok (.aload_n 2, 1) := by decide +kernel
theorem dL_law_1081 : decode cL_law 1081 = .ok (.aload_n 0, 1) := by decide +kernel
theorem dL_law_1082 : decode cL_law 1082 = .ok (.iload_n 3, 1) := by decide +kernel
theorem dL_law_1083 : decode cL_law 1083 = .ok (.iconst 1, 1) := by decide +kernel
theorem dL_law_1084 : decode cL_law 1084 = .ok (.iadd, 1) := by decide +kernel
theorem dL_law_1085 : decode cL_law 1085 = .ok (.iaload, 1) := by decide +kernel
theorem dL_law_1086 : decode cL_law 1086 = .ok (.invokevirtual 117, 3) := by decide +kernel
theorem dL_law_1089 : decode cL_law 1089 = .ok (.if_icmp .eq 316, 3) := by decide +kernel
theorem dL_law_1092 : decode cL_law 1092 = .ok (.iconst 0, 1) := by decide +kernel
theorem dL_law_1093 : decode cL_law 1093 = .ok (.ireturn, 1) := by decide +kernel
theorem dL_law_1094 : decode cL_law 1094 = .ok (.aload_n 1, 1) := by decide +kernel
theorem dL_law_1095 : decode cL_law 1095 = .ok (.aload_n 0, 1) := by decide +kernel
theorem dL_law_1096 : decode cL_law 1096 = .ok (.iload_n 3, 1) := by decide +kernel
theorem dL_law_1097 : decode cL_law 1097 = .ok (.iconst 1, 1) := by decide +kernel
theorem dL_law_1098 : decode cL_law 1098 = .ok (.iadd, 1) := by decide +kernel
theorem dL_law_1099 : decode cL_law 1099 = .ok (.iaload, 1) := by decide +kernel
theorem dL_law_1100 : decode cL_law 1100 = .ok (.invokevirtual 118, 3) := by decide +kernel
theorem dL_law_1103 : decode cL_law 1103 = .ok (.aload_n 2, 1) := by decide +kernel
theorem dL_law_1104 : decode cL_law 1104 = .ok (.aload_n 0, 1) := by decide +kernel
theorem dL_law_1105 : decode cL_law 1105 = .ok (.iload_n 3, 1) := by decide +kernel
theorem dL_law_1106 : decode cL_law 1106 = .ok (.iconst 1, 1) := by decide +kernel
theorem dL_law_1107 : decode cL_law 1107 = .ok (.iadd, 1) := by decide +kernel
theorem dL_law_1108 : decode cL_law 1108 = .ok (.iaload, 1) := by decide +kernel
theorem dL_law_1109 : decode cL_law 1109 = .ok (.invokevirtual 121, 3) := by decide +kernel
theorem dL_law_1112 : decode cL_law 1112 = .ok (.if_icmp .eq 293, 3) := by decide +kernel
theorem dL_law_1115 : decode cL_law 1115 = .ok (.iconst 0, 1) := by decide +kernel
theorem dL_law_1116 : decode cL_law 1116 = .ok (.ireturn, 1) := by decide +kernel
theorem dL_law_1117 : decode cL_law 1117 = .ok (.aload_n 1, 1) := by decide +kernel
theorem dL_law_1118 : decode cL_law 1118 = .ok (.aload_n 0, 1) := by decide +kernel
theorem dL_law_1119 : decode cL_law 1119 = .ok (.iload_n 3, 1) := by decide +kernel
theorem dL_law_1120 : decode cL_law 1120 = .ok (.iconst 1, 1) := by decide +kernel
theorem dL_law_1121 : decode cL_law 1121 = .ok (.iadd, 1) := by decide +kernel
theorem dL_law_1122 : decode cL_law 1122 = .ok (.iaload, 1) := by decide +kernel
theorem dL_law_1123 : decode cL_law 1123 = .ok (.aload_n 0, 1) := by decide +kernel
theorem dL_law_1124 : decode cL_law 1124 = .ok (.iload_n 3, 1) := by decide +kernel
theorem dL_law_1125 : decode cL_law 1125 = .ok (.iconst 2, 1) := by decide +kernel
theorem dL_law_1126 : decode cL_law 1126 = .ok (.iadd, 1) := by decide +kernel
theorem dL_law_1127 : decode cL_law 1127 = .ok (.iaload, 1) := by decide +kernel
theorem dL_law_1128 : decode cL_law 1128 = .ok (.aload_n 0, 1) := by decide +kernel
theorem dL_law_1129 : decode cL_law 1129 = .ok (.iload_n 3, 1) := by decide +kernel
theorem dL_law_1130 : decode cL_law 1130 = .ok (.iconst 3, 1) := by decide +kernel
theorem dL_law_1131 : decode cL_law 1131 = .ok (.iadd, 1) := by decide +kernel
theorem dL_law_1132 : decode cL_law 1132 = .ok (.iaload, 1) := by decide +kernel
theorem dL_law_1133 : decode cL_law 1133 = .ok (.aload_n 0, 1) := by decide +kernel
theorem dL_law_1134 : decode cL_law 1134 = .ok (.iload_n 3, 1) := by decide +kernel
theorem dL_law_1135 : decode cL_law 1135 = .ok (.iconst 4, 1) := by decide +kernel
theorem dL_law_1136 : decode cL_law 1136 = .ok (.iadd, 1) := by decide +kernel
theorem dL_law_1137 : decode cL_law 1137 = .ok (.iaload, 1) := by decide +kernel
theorem dL_law_1138 : decode cL_law 1138 = .ok (.invokevirtual 122, 3) := by decide +kernel
theorem dL_law_1141 : decode cL_law 1141 = .ok (.aload_n 2, 1) := by decide +kernel
theorem dL_law_1142 : decode cL_law 1142 = .ok (.aload_n 0, 1) := by decide +kernel
theorem dL_law_1143 : decode cL_law 1143 = .ok (.iload_n 3, 1) := by decide +kernel
theorem dL_law_1144 : decode cL_law 1144 = .ok (.iconst 1, 1) := by decide +kernel
theorem dL_law_1145 : decode cL_law 1145 = .ok (.iadd, 1) := by decide +kernel
theorem dL_law_1146 : decode cL_law 1146 = .ok (.iaload, 1) := by decide +kernel
theorem dL_law_1147 : decode cL_law 1147 = .ok (.aload_n 0, 1) := by decide +kernel
theorem dL_law_1148 : decode cL_law 1148 = .ok (.iload_n 3, 1) := by decide +kernel
theorem dL_law_1149 : decode cL_law 1149 = .ok (.iconst 2, 1) := by decide +kernel
theorem dL_law_1150 : decode cL_law 1150 = .ok (.iadd, 1) := by decide +kernel
theorem dL_law_1151 : decode cL_law 1151 = .ok (.iaload, 1) := by decide +kernel
theorem dL_law_1152 : decode cL_law 1152 = .ok (.aload_n 0, 1) := by decide +kernel
theorem dL_law_1153 : decode cL_law 1153 = .ok (.iload_n 3, 1) := by decide +kernel
theorem dL_law_1154 : decode cL_law 1154 = .ok (.iconst 3, 1) := by decide +kernel
theorem dL_law_1155 : decode cL_law 1155 = .ok (.iadd, 1) := by decide +kernel
theorem dL_law_1156 : decode cL_law 1156 = .ok (.iaload, 1) := by decide +kernel
theorem dL_law_1157 : decode cL_law 1157 = .ok (.aload_n 0, 1) := by decide +kernel
theorem dL_law_1158 : decode cL_law 1158 = .ok (.iload_n 3, 1) := by decide +kernel
theorem dL_law_1159 : decode cL_law 1159 = .ok (.iconst 4, 1) := by decide +kernel
theorem dL_law_1160 : decode cL_law 1160 = .ok (.iadd, 1) := by decide +kernel
theorem dL_law_1161 : decode cL_law 1161 = .ok (.iaload, 1) := by decide +kernel
theorem dL_law_1162 : decode cL_law 1162 = .ok (.invokevirtual 126, 3) := by decide +kernel
theorem dL_law_1165 : decode cL_law 1165 = .ok (.lcmp, 1) := by decide +kernel
theorem dL_law_1166 : decode cL_law 1166 = .ok (.ifCond .eq 239, 3) := by decide +kernel
theorem dL_law_1169 : decode cL_law 1169 = .ok (.iconst 0, 1) := by decide +kernel
theorem dL_law_1170 : decode cL_law 1170 = .ok (.ireturn, 1) := by decide +kernel
theorem dL_law_1171 : decode cL_law 1171 = .ok (.aload_n 1, 1) := by decide +kernel
theorem dL_law_1172 : decode cL_law 1172 = .ok (.aload_n 0, 1) := by decide +kernel
theorem dL_law_1173 : decode cL_law 1173 = .ok (.iload_n 3, 1) := by decide +kernel
theorem dL_law_1174 : decode cL_law 1174 = .ok (.iconst 1, 1) := by decide +kernel
theorem dL_law_1175 : decode cL_law 1175 = .ok (.iadd, 1) := by decide +kernel
theorem dL_law_1176 : decode cL_law 1176 = .ok (.iaload, 1) := by decide +kernel
theorem dL_law_1177 : decode cL_law 1177 = .ok (.aload_n 0, 1) := by decide +kernel
theorem dL_law_1178 : decode cL_law 1178 = .ok (.iload_n 3, 1) := by decide +kernel
theorem dL_law_1179 : decode cL_law 1179 = .ok (.iconst 2, 1) := by decide +kernel
theorem dL_law_1180 : decode cL_law 1180 = .ok (.iadd, 1) := by decide +kernel
theorem dL_law_1181 : decode cL_law 1181 = .ok (.iaload, 1) := by decide +kernel
theorem dL_law_1182 : decode cL_law 1182 = .ok (.aload_n 0, 1) := by decide +kernel
theorem dL_law_1183 : decode cL_law 1183 = .ok (.iload_n 3, 1) := by decide +kernel
theorem dL_law_1184 : decode cL_law 1184 = .ok (.iconst 3, 1) := by decide +kernel
theorem dL_law_1185 : decode cL_law 1185 = .ok (.iadd, 1) := by decide +kernel
theorem dL_law_1186 : decode cL_law 1186 = .ok (.iaload, 1) := by decide +kernel
theorem dL_law_1187 : decode cL_law 1187 = .ok (.aload_n 0, 1) := by decide +kernel
theorem dL_law_1188 : decode cL_law 1188 = .ok (.iload_n 3, 1) := by decide +kernel
theorem dL_law_1189 : decode cL_law 1189 = .ok (.iconst 4, 1) := by decide +kernel
theorem dL_law_1190 : decode cL_law 1190 = .ok (.iadd, 1) := by decide +kernel
theorem dL_law_1191 : decode cL_law 1191 = .ok (.iaload, 1) := by decide +kernel
theorem dL_law_1192 : decode cL_law 1192 = .ok (.aload_n 0, 1) := by decide +kernel
theorem dL_law_1193 : decode cL_law 1193 = .ok (.iload_n 3, 1) := by decide +kernel
theorem dL_law_1194 : decode cL_law 1194 = .ok (.iconst 5, 1) := by decide +kernel
theorem dL_law_1195 : decode cL_law 1195 = .ok (.iadd, 1) := by decide +kernel
theorem dL_law_1196 : decode cL_law 1196 = .ok (.iaload, 1) := by decide +kernel
theorem dL_law_1197 : decode cL_law 1197 = .ok (.aload_n 0, 1) := by decide +kernel
theorem dL_law_1198 : decode cL_law 1198 = .ok (.iload_n 3, 1) := by decide +kernel
theorem dL_law_1199 : decode cL_law 1199 = .ok (.bipush 6, 2) := by decide +kernel
theorem dL_law_1201 : decode cL_law 1201 = .ok (.iadd, 1) := by decide +kernel
theorem dL_law_1202 : decode cL_law 1202 = .ok (.iaload, 1) := by decide +kernel
theorem dL_law_1203 : decode cL_law 1203 = .ok (.invokevirtual 127, 3) := by decide +kernel
theorem dL_law_1206 : decode cL_law 1206 = .ok (.aload_n 2, 1) := by decide +kernel
theorem dL_law_1207 : decode cL_law 1207 = .ok (.aload_n 0, 1) := by decide +kernel
theorem dL_law_1208 : decode cL_law 1208 = .ok (.iload_n 3, 1) := by decide +kernel
theorem dL_law_1209 : decode cL_law 1209 = .ok (.iconst 1, 1) := by decide +kernel
theorem dL_law_1210 : decode cL_law 1210 = .ok (.iadd, 1) := by decide +kernel
theorem dL_law_1211 : decode cL_law 1211 = .ok (.iaload, 1) := by decide +kernel
theorem dL_law_1212 : decode cL_law 1212 = .ok (.aload_n 0, 1) := by decide +kernel
theorem dL_law_1213 : decode cL_law 1213 = .ok (.iload_n 3, 1) := by decide +kernel
theorem dL_law_1214 : decode cL_law 1214 = .ok (.iconst 2, 1) := by decide +kernel
theorem dL_law_1215 : decode cL_law 1215 = .ok (.iadd, 1) := by decide +kernel
theorem dL_law_1216 : decode cL_law 1216 = .ok (.iaload, 1) := by decide +kernel
theorem dL_law_1217 : decode cL_law 1217 = .ok (.aload_n 0, 1) := by decide +kernel
theorem dL_law_1218 : decode cL_law 1218 = .ok (.iload_n 3, 1) := by decide +kernel
theorem dL_law_1219 : decode cL_law 1219 = .ok (.iconst 3, 1) := by decide +kernel
theorem dL_law_1220 : decode cL_law 1220 = .ok (.iadd, 1) := by decide +kernel
theorem dL_law_1221 : decode cL_law 1221 = .ok (.iaload, 1) := by decide +kernel
theorem dL_law_1222 : decode cL_law 1222 = .ok (.aload_n 0, 1) := by decide +kernel
theorem dL_law_1223 : decode cL_law 1223 = .ok (.iload_n 3, 1) := by decide +kernel
theorem dL_law_1224 : decode cL_law 1224 = .ok (.iconst 4, 1) := by decide +kernel
theorem dL_law_1225 : decode cL_law 1225 = .ok (.iadd, 1) := by decide +kernel
theorem dL_law_1226 : decode cL_law 1226 = .ok (.iaload, 1) := by decide +kernel
theorem dL_law_1227 : decode cL_law 1227 = .ok (.aload_n 0, 1) := by decide +kernel
theorem dL_law_1228 : decode cL_law 1228 = .ok (.iload_n 3, 1) := by decide +kernel
theorem dL_law_1229 : decode cL_law 1229 = .ok (.iconst 5, 1) := by decide +kernel
theorem dL_law_1230 : decode cL_law 1230 = .ok (.iadd, 1) := by decide +kernel
theorem dL_law_1231 : decode cL_law 1231 = .ok (.iaload, 1) := by decide +kernel
theorem dL_law_1232 : decode cL_law 1232 = .ok (.aload_n 0, 1) := by decide +kernel
theorem dL_law_1233 : decode cL_law 1233 = .ok (.iload_n 3, 1) := by decide +kernel
theorem dL_law_1234 : decode cL_law 1234 = .ok (.bipush 6, 2) := by decide +kernel
theorem dL_law_1236 : decode cL_law 1236 = .ok (.iadd, 1) := by decide +kernel
theorem dL_law_1237 : decode cL_law 1237 = .ok (.iaload, 1) := by decide +kernel
theorem dL_law_1238 : decode cL_law 1238 = .ok (.invokevirtual 131, 3) := by decide +kernel
theorem dL_law_1241 : decode cL_law 1241 = .ok (.lcmp, 1) := by decide +kernel
theorem dL_law_1242 : decode cL_law 1242 = .ok (.ifCond .eq 163, 3) := by decide +kernel
theorem dL_law_1245 : decode cL_law 1245 = .ok (.iconst 0, 1) := by decide +kernel
theorem dL_law_1246 : decode cL_law 1246 = .ok (.ireturn, 1) := by decide +kernel
theorem dL_law_1247 : decode cL_law 1247 = .ok (.aload_n 1, 1) := by decide +kernel
theorem dL_law_1248 : decode cL_law 1248 = .ok (.aload_n 0, 1) := by decide +kernel
theorem dL_law_1249 : decode cL_law 1249 = .ok (.iload_n 3, 1) := by decide +kernel
theorem dL_law_1250 : decode cL_law 1250 = .ok (.iconst 1, 1) := by decide +kernel
theorem dL_law_1251 : decode cL_law 1251 = .ok (.iadd, 1) := by decide +kernel
theorem dL_law_1252 : decode cL_law 1252 = .ok (.iaload, 1) := by decide +kernel
theorem dL_law_1253 : decode cL_law 1253 = .ok (.invokevirtual 132, 3) := by decide +kernel
theorem dL_law_1256 : decode cL_law 1256 = .ok (.aload_n 2, 1) := by decide +kernel
theorem dL_law_1257 : decode cL_law 1257 = .ok (.aload_n 0, 1) := by decide +kernel
theorem dL_law_1258 : decode cL_law 1258 = .ok (.iload_n 3, 1) := by decide +kernel
theorem dL_law_1259 : decode cL_law 1259 = .ok (.iconst 1, 1) := by decide +kernel
theorem dL_law_1260 : decode cL_law 1260 = .ok (.iadd, 1) := by decide +kernel
theorem dL_law_1261 : decode cL_law 1261 = .ok (.iaload, 1) := by decide +kernel
theorem dL_law_1262 : decode cL_law 1262 = .ok (.invokevirtual 135, 3) := by decide +kernel
theorem dL_law_1265 : decode cL_law 1265 = .ok (.if_icmp .eq 140, 3) := by decide +kernel
theorem dL_law_1268 : decode cL_law 1268 = .ok (.iconst 0, 1) := by decide +kernel
theorem dL_law_1269 : decode cL_law 1269 = .ok (.ireturn, 1) := by decide +kernel
theorem dL_law_1270 : decode cL_law 1270 = .ok (.aload_n 1, 1) := by decide +kernel
theorem dL_law_1271 : decode cL_law 1271 = .ok (.aload_n 0, 1) := by decide +kernel
theorem dL_law_1272 : decode cL_law 1272 = .ok (.iload_n 3, 1) := by decide +kernel
theorem dL_law_1273 : decode cL_law 1273 = .ok (.iconst 1, 1) := by decide +kernel
theorem dL_law_1274 : decode cL_law 1274 = .ok (.iadd, 1) := by decide +kernel
theorem dL_law_1275 : decode cL_law 1275 = .ok (.iaload, 1) := by decide +kernel
theorem dL_law_1276 : decode cL_law 1276 = .ok (.aload_n 0, 1) := by decide +kernel
theorem dL_law_1277 : decode cL_law 1277 = .ok (.iload_n 3, 1) := by decide +kernel
theorem dL_law_1278 : decode cL_law 1278 = .ok (.iconst 2, 1) := by decide +kernel
theorem dL_law_1279 : decode cL_law 1279 = .ok (.iadd, 1) := by decide +kernel
theorem dL_law_1280 : decode cL_law 1280 = .ok (.iaload, 1) := by decide +kernel
theorem dL_law_1281 : decode cL_law 1281 = .ok (.invokevirtual 136, 3) := by decide +kernel
theorem dL_law_1284 : decode cL_law 1284 = .ok (.aload_n 2, 1) := by decide +kernel
theorem dL_law_1285 : decode cL_law 1285 = .ok (.aload_n 0, 1) := by decide +kernel
theorem dL_law_1286 : decode cL_law 1286 = .ok (.iload_n 3, 1) := by decide +kernel
theorem dL_law_1287 : decode cL_law 1287 = .ok (.iconst 1, 1) := by decide +kernel
theorem dL_law_1288 : decode cL_law 1288 = .ok (.iadd, 1) := by decide +kernel
theorem dL_law_1289 : decode cL_law 1289 = .ok (.iaload, 1) := by decide +kernel
theorem dL_law_1290 : decode cL_law 1290 = .ok (.aload_n 0, 1) := by decide +kernel
theorem dL_law_1291 : decode cL_law 1291 = .ok (.iload_n 3, 1) := by decide +kernel
theorem dL_law_1292 : decode cL_law 1292 = .ok (.iconst 2, 1) := by decide +kernel
theorem dL_law_1293 : decode cL_law 1293 = .ok (.iadd, 1) := by decide +kernel
theorem dL_law_1294 : decode cL_law 1294 = .ok (.iaload, 1) := by decide +kernel
theorem dL_law_1295 : decode cL_law 1295 = .ok (.invokevirtual 139, 3) := by decide +kernel
theorem dL_law_1298 : decode cL_law 1298 = .ok (.if_icmp .eq 107, 3) := by decide +kernel
theorem dL_law_1301 : decode cL_law 1301 = .ok (.iconst 0, 1) := by decide +kernel
theorem dL_law_1302 : decode cL_law 1302 = .ok (.ireturn, 1) := by decide +kernel
theorem dL_law_1303 : decode cL_law 1303 = .ok (.aload_n 1, 1) := by decide +kernel
theorem dL_law_1304 : decode cL_law 1304 = .ok (.aload_n 0, 1) := by decide +kernel
theorem dL_law_1305 : decode cL_law 1305 = .ok (.iload_n 3, 1) := by decide +kernel
theorem dL_law_1306 : decode cL_law 1306 = .ok (.iconst 1, 1) := by decide +kernel
theorem dL_law_1307 : decode cL_law 1307 = .ok (.iadd, 1) := by decide +kernel
theorem dL_law_1308 : decode cL_law 1308 = .ok (.iaload, 1) := by decide +kernel
theorem dL_law_1309 : decode cL_law 1309 = .ok (.aload_n 0, 1) := by decide +kernel
theorem dL_law_1310 : decode cL_law 1310 = .ok (.iload_n 3, 1) := by decide +kernel
theorem dL_law_1311 : decode cL_law 1311 = .ok (.iconst 2, 1) := by decide +kernel
theorem dL_law_1312 : decode cL_law 1312 = .ok (.iadd, 1) := by decide +kernel
theorem dL_law_1313 : decode cL_law 1313 = .ok (.iaload, 1) := by decide +kernel
theorem dL_law_1314 : decode cL_law 1314 = .ok (.invokevirtual 140, 3) := by decide +kernel
theorem dL_law_1317 : decode cL_law 1317 = .ok (.aload_n 2, 1) := by decide +kernel
theorem dL_law_1318 : decode cL_law 1318 = .ok (.aload_n 0, 1) := by decide +kernel
theorem dL_law_1319 : decode cL_law 1319 = .ok (.iload_n 3, 1) := by decide +kernel
theorem dL_law_1320 : decode cL_law 1320 = .ok (.iconst 1, 1) := by decide +kernel
theorem dL_law_1321 : decode cL_law 1321 = .ok (.iadd, 1) := by decide +kernel
theorem dL_law_1322 : decode cL_law 1322 = .ok (.iaload, 1) := by decide +kernel
theorem dL_law_1323 : decode cL_law 1323 = .ok (.aload_n 0, 1) := by decide +kernel
theorem dL_law_1324 : decode cL_law 1324 = .ok (.iload_n 3, 1) := by decide +kernel
theorem dL_law_1325 : decode cL_law 1325 = .ok (.iconst 2, 1) := by decide +kernel
theorem dL_law_1326 : decode cL_law 1326 = .ok (.iadd, 1) := by decide +kernel
theorem dL_law_1327 : decode cL_law 1327 = .ok (.iaload, 1) := by decide +kernel
theorem dL_law_1328 : decode cL_law 1328 = .ok (.invokevirtual 143, 3) := by decide +kernel
theorem dL_law_1331 : decode cL_law 1331 = .ok (.if_icmp .eq 74, 3) := by decide +kernel
theorem dL_law_1334 : decode cL_law 1334 = .ok (.iconst 0, 1) := by decide +kernel
theorem dL_law_1335 : decode cL_law 1335 = .ok (.ireturn, 1) := by decide +kernel
theorem dL_law_1336 : decode cL_law 1336 = .ok (.aload_n 1, 1) := by decide +kernel
theorem dL_law_1337 : decode cL_law 1337 = .ok (.aload_n 0, 1) := by decide +kernel
theorem dL_law_1338 : decode cL_law 1338 = .ok (.iload_n 3, 1) := by decide +kernel
theorem dL_law_1339 : decode cL_law 1339 = .ok (.iconst 1, 1) := by decide +kernel
theorem dL_law_1340 : decode cL_law 1340 = .ok (.iadd, 1) := by decide +kernel
theorem dL_law_1341 : decode cL_law 1341 = .ok (.iaload, 1) := by decide +kernel
theorem dL_law_1342 : decode cL_law 1342 = .ok (.invokevirtual 144, 3) := by decide +kernel
theorem dL_law_1345 : decode cL_law 1345 = .ok (.aload_n 2, 1) := by decide +kernel
theorem dL_law_1346 : decode cL_law 1346 = .ok (.aload_n 0, 1) := by decide +kernel
theorem dL_law_1347 : decode cL_law 1347 = .ok (.iload_n 3, 1) := by decide +kernel
theorem dL_law_1348 : decode cL_law 1348 = .ok (.iconst 1, 1) := by decide +kernel
theorem dL_law_1349 : decode cL_law 1349 = .ok (.iadd, 1) := by decide +kernel
theorem dL_law_1350 : decode cL_law 1350 = .ok (.iaload, 1) := by decide +kernel
theorem dL_law_1351 : decode cL_law 1351 = .ok (.invokevirtual 147, 3) := by decide +kernel
theorem dL_law_1354 : decode cL_law 1354 = .ok (.if_icmp .eq 51, 3) := by decide +kernel
theorem dL_law_1357 : decode cL_law 1357 = .ok (.iconst 0, 1) := by decide +kernel
theorem dL_law_1358 : decode cL_law 1358 = .ok (.ireturn, 1) := by decide +kernel
theorem dL_law_1359 : decode cL_law 1359 = .ok (.aload_n 1, 1) := by decide +kernel
theorem dL_law_1360 : decode cL_law 1360 = .ok (.aload_n 0, 1) := by decide +kernel
theorem dL_law_1361 : decode cL_law 1361 = .ok (.iload_n 3, 1) := by decide +kernel
theorem dL_law_1362 : decode cL_law 1362 = .ok (.iconst 1, 1) := by decide +kernel
theorem dL_law_1363 : decode cL_law 1363 = .ok (.iadd, 1) := by decide +kernel
theorem dL_law_1364 : decode cL_law 1364 = .ok (.iaload, 1) := by decide +kernel
theorem dL_law_1365 : decode cL_law 1365 = .ok (.aload_n 0, 1) := by decide +kernel
theorem dL_law_1366 : decode cL_law 1366 = .ok (.iload_n 3, 1) := by decide +kernel
theorem dL_law_1367 : decode cL_law 1367 = .ok (.iconst 2, 1) := by decide +kernel
theorem dL_law_1368 : decode cL_law 1368 = .ok (.iadd, 1) := by decide +kernel
theorem dL_law_1369 : decode cL_law 1369 = .ok (.iaload, 1) := by decide +kernel
theorem dL_law_1370 : decode cL_law 1370 = .ok (.invokevirtual 148, 3) := by decide +kernel
theorem dL_law_1373 : decode cL_law 1373 = .ok (.aload_n 2, 1) := by decide +kernel
theorem dL_law_1374 : decode cL_law 1374 = .ok (.aload_n 0, 1) := by decide +kernel
theorem dL_law_1375 : decode cL_law 1375 = .ok (.iload_n 3, 1) := by decide +kernel
theorem dL_law_1376 : decode cL_law 1376 = .ok (.iconst 1, 1) := by decide +kernel
theorem dL_law_1377 : decode cL_law 1377 = .ok (.iadd, 1) := by decide +kernel
theorem dL_law_1378 : decode cL_law 1378 = .ok (.iaload, 1) := by decide +kernel
theorem dL_law_1379 : decode cL_law 1379 = .ok (.aload_n 0, 1) := by decide +kernel
theorem dL_law_1380 : decode cL_law 1380 = .ok (.iload_n 3, 1) := by decide +kernel
theorem dL_law_1381 : decode cL_law 1381 = .ok (.iconst 2, 1) := by decide +kernel
theorem dL_law_1382 : decode cL_law 1382 = .ok (.iadd, 1) := by decide +kernel
theorem dL_law_1383 : decode cL_law 1383 = .ok (.iaload, 1) := by decide +kernel
theorem dL_law_1384 : decode cL_law 1384 = .ok (.invokevirtual 151, 3) := by decide +kernel
theorem dL_law_1387 : decode cL_law 1387 = .ok (.if_icmp .eq 18, 3) := by decide +kernel
theorem dL_law_1390 : decode cL_law 1390 = .ok (.iconst 0, 1) := by decide +kernel
theorem dL_law_1391 : decode cL_law 1391 = .ok (.ireturn, 1) := by decide +kernel
theorem dL_law_1392 : decode cL_law 1392 = .ok (.aload_n 1, 1) := by decide +kernel
theorem dL_law_1393 : decode cL_law 1393 = .ok (.invokevirtual 152, 3) := by decide +kernel
theorem dL_law_1396 : decode cL_law 1396 = .ok (.aload_n 2, 1) := by decide +kernel
theorem dL_law_1397 : decode cL_law 1397 = .ok (.invokevirtual 156, 3) := by decide +kernel
theorem dL_law_1400 : decode cL_law 1400 = .ok (.if_icmp .eq 5, 3) := by decide +kernel
theorem dL_law_1403 : decode cL_law 1403 = .ok (.iconst 0, 1) := by decide +kernel
theorem dL_law_1404 : decode cL_law 1404 = .ok (.ireturn, 1) := by decide +kernel
theorem dL_law_1405 : decode cL_law 1405 = .ok (.iinc 3 7, 3) := by decide +kernel
theorem dL_law_1408 : decode cL_law 1408 = .ok (.goto (-1390), 3) := by decide +kernel
theorem dL_law_1411 : decode cL_law 1411 = .ok (.iconst 1, 1) := by decide +kernel
theorem dL_law_1412 : decode cL_law 1412 = .ok (.ireturn, 1) := by decide +kernel
