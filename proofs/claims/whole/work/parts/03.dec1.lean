theorem dX7_splitOff_31 : decode cX7_splitOff 31 = .ok (.aload_n 0, 1) := by decide +kernel
theorem dX7_splitOff_32 : decode cX7_splitOff 32 = .ok (.getfield 24, 3) := by decide +kernel
theorem dX7_splitOff_35 : decode cX7_splitOff 35 = .ok (.aload_n 0, 1) := by decide +kernel
theorem dX7_splitOff_36 : decode cX7_splitOff 36 = .ok (.getfield 30, 3) := by decide +kernel
theorem dX7_splitOff_39 : decode cX7_splitOff 39 = .ok (.getfield 52, 3) := by decide +kernel
theorem dX7_splitOff_42 : decode cX7_splitOff 42 = .ok (.invokevirtual 62, 3) := by decide +kernel
theorem dX7_splitOff_45 : decode cX7_splitOff 45 = .ok (.aload_n 0, 1) := by decide +kernel
theorem dX7_splitOff_46 : decode cX7_splitOff 46 = .ok (.getfield 18, 3) := by decide +kernel
theorem dX7_splitOff_49 : decode cX7_splitOff 49 = .ok (.aload_n 0, 1) := by decide +kernel
theorem dX7_splitOff_50 : decode cX7_splitOff 50 = .ok (.getfield 24, 3) := by decide +kernel
theorem dX7_splitOff_53 : decode cX7_splitOff 53 = .ok (.aload_n 0, 1) := by decide +kernel
theorem dX7_splitOff_54 : decode cX7_splitOff 54 = .ok (.getfield 18, 3) := by decide +kernel
theorem dX7_splitOff_57 : decode cX7_splitOff 57 = .ok (.invokevirtual 65, 3) := by decide +kernel
theorem dX7_splitOff_60 : decode cX7_splitOff 60 = .ok (.aload_n 0, 1) := by decide +kernel
theorem dX7_splitOff_61 : decode cX7_splitOff 61 = .ok (.getfield 18, 3) := by decide +kernel
theorem dX7_splitOff_64 : decode cX7_splitOff 64 = .ok (.lload_n 1, 1) := by decide +kernel
theorem dX7_splitOff_65 : decode cX7_splitOff 65 = .ok (.invokevirtual 69, 3) := by decide +kernel
theorem dX7_splitOff_68 : decode cX7_splitOff 68 = .ok (.return_, 1) := by decide +kernel
theorem dX8_init_0 : decode cX8_init 0 = .ok (.aload_n 0, 1) := by decide +kernel
theorem dX8_init_1 : decode cX8_init 1 = .ok (.invokespecial 1, 3) := by decide +kernel
theorem dX8_init_4 : decode cX8_init 4 = .ok (.aload_n 0, 1) := by decide +kernel
theorem dX8_init_5 : decode cX8_init 5 = .ok (.bipush 9, 2) := by decide +kernel
theorem dX8_init_7 : decode cX8_init 7 = .ok (.newarray .long, 2) := by decide +kernel
theorem dX8_init_9 : decode cX8_init 9 = .ok (.putfield 7, 3) := by decide +kernel
theorem dX8_init_12 : decode cX8_init 12 = .ok (.aload_n 0, 1) := by decide +kernel
theorem dX8_init_13 : decode cX8_init 13 = .ok (.lconst 1, 1) := by decide +kernel
theorem dX8_init_14 : decode cX8_init 14 = .ok (.putfield 13, 3) := by decide +kernel
theorem dX8_init_17 : decode cX8_init 17 = .ok (.return_, 1) := by decide +kernel
theorem dX8_fill_0 : decode cX8_fill 0 = .ok (.aload_n 0, 1) := by decide +kernel
theorem dX8_fill_1 : decode cX8_fill 1 = .ok (.aload_n 1, 1) := by decide +kernel
theorem dX8_fill_2 : decode cX8_fill 2 = .ok (.invokevirtual 17, 3) := by decide +kernel
theorem dX8_fill_5 : decode cX8_fill 5 = .ok (.putfield 13, 3) := by decide +kernel
theorem dX8_fill_8 : decode cX8_fill 8 = .ok (.aload_n 1, 1) := by decide +kernel
theorem dX8_fill_9 : decode cX8_fill 9 = .ok (.getfield 23, 3) := by decide +kernel
theorem dX8_fill_12 : decode cX8_fill 12 = .ok (.aload_n 1, 1) := by decide +kernel
theorem dX8_fill_13 : decode cX8_fill 13 = .ok (.getfield 23, 3) := by decide +kernel
theorem dX8_fill_16 : decode cX8_fill 16 = .ok (.lmul, 1) := by decide +kernel
theorem dX8_fill_17 : decode cX8_fill 17 = .ok (.lstore_n 2, 1) := by decide +kernel
theorem dX8_fill_18 : decode cX8_fill 18 = .ok (.aload_n 1, 1) := by decide +kernel
theorem dX8_fill_19 : decode cX8_fill 19 = .ok (.getfield 26, 3) := by decide +kernel
theorem dX8_fill_22 : decode cX8_fill 22 = .ok (.aload_n 1, 1) := by decide +kernel
theorem dX8_fill_23 : decode cX8_fill 23 = .ok (.getfield 26, 3) := by decide +kernel
theorem dX8_fill_26 : decode cX8_fill 26 = .ok (.lmul, 1) := by decide +kernel
theorem dX8_fill_27 : decode cX8_fill 27 = .ok (.lstore 4, 2) := by decide +kernel
theorem dX8_fill_29 : decode cX8_fill 29 = .ok (.aload_n 1, 1) := by decide +kernel
theorem dX8_fill_30 : decode cX8_fill 30 = .ok (.getfield 29, 3) := by decide +kernel
theorem dX8_fill_33 : decode cX8_fill 33 = .ok (.aload_n 1, 1) := by decide +kernel
theorem dX8_fill_34 : decode cX8_fill 34 = .ok (.getfield 29, 3) := by decide +kernel
theorem dX8_fill_37 : decode cX8_fill 37 = .ok (.lmul, 1) := by decide +kernel
theorem dX8_fill_38 : decode cX8_fill 38 = .ok (.lstore 6, 2) := by decide +kernel
theorem dX8_fill_40 : decode cX8_fill 40 = .ok (.aload_n 1, 1) := by decide +kernel
theorem dX8_fill_41 : decode cX8_fill 41 = .ok (.getfield 32, 3) := by decide +kernel
theorem dX8_fill_44 : decode cX8_fill 44 = .ok (.aload_n 1, 1) := by decide +kernel
theorem dX8_fill_45 : decode cX8_fill 45 = .ok (.getfield 32, 3) := by decide +kernel
theorem dX8_fill_48 : decode cX8_fill 48 = .ok (.lmul, 1) := by decide +kernel
theorem dX8_fill_49 : decode cX8_fill 49 = .ok (.lstore 8, 2) := by decide +kernel
theorem dX8_fill_51 : decode cX8_fill 51 = .ok (.aload_n 1, 1) := by decide +kernel
theorem dX8_fill_52 : decode cX8_fill 52 = .ok (.getfield 23, 3) := by decide +kernel
theorem dX8_fill_55 : decode cX8_fill 55 = .ok (.aload_n 1, 1) := by decide +kernel
theorem dX8_fill_56 : decode cX8_fill 56 = .ok (.getfield 26, 3) := by decide +kernel
theorem dX8_fill_59 : decode cX8_fill 59 = .ok (.lmul, 1) := by decide +kernel
theorem dX8_fill_60 : decode cX8_fill 60 = .ok (.lstore 10, 2) := by decide +kernel
theorem dX8_fill_62 : decode cX8_fill 62 = .ok (.aload_n 1, 1) := by decide +kernel
theorem dX8_fill_63 : decode cX8_fill 63 = .ok (.getfield 23, 3) := by decide +kernel
theorem dX8_fill_66 : decode cX8_fill 66 = .ok (.aload_n 1, 1) := by decide +kernel
theorem dX8_fill_67 : decode cX8_fill 67 = .ok (.getfield 29, 3) := by decide +kernel
theorem dX8_fill_70 : decode cX8_fill 70 = .ok (.lmul, 1) := by decide +kernel
theorem dX8_fill_71 : decode cX8_fill 71 = .ok (.lstore 12, 2) := by decide +kernel
theorem dX8_fill_73 : decode cX8_fill 73 = .ok (.aload_n 1, 1) := by decide +kernel
theorem dX8_fill_74 : decode cX8_fill 74 = .ok (.getfield 23, 3) := by decide +kernel
theorem dX8_fill_77 : decode cX8_fill 77 = .ok (.aload_n 1, 1) := by decide +kernel
theorem dX8_fill_78 : decode cX8_fill 78 = .ok (.getfield 32, 3) := by decide +kernel
theorem dX8_fill_81 : decode cX8_fill 81 = .ok (.lmul, 1) := by decide +kernel
theorem dX8_fill_82 : decode cX8_fill 82 = .ok (.lstore 14, 2) := by decide +kernel
theorem dX8_fill_84 : decode cX8_fill 84 = .ok (.aload_n 1, 1) := by decide +kernel
theorem dX8_fill_85 : decode cX8_fill 85 = .ok (.getfield 26, 3) := by decide +kernel
theorem dX8_fill_88 : decode cX8_fill 88 = .ok (.aload_n 1, 1) := by decide +kernel
theorem dX8_fill_89 : decode cX8_fill 89 = .ok (.getfield 29, 3) := by decide +kernel
theorem dX8_fill_92 : decode cX8_fill 92 = .ok (.lmul, 1) := by decide +kernel
theorem dX8_fill_93 : decode cX8_fill 93 = .ok (.lstore 16, 2) := by decide +kernel
theorem dX8_fill_95 : decode cX8_fill 95 = .ok (.aload_n 1, 1) := by decide +kernel
theorem dX8_fill_96 : decode cX8_fill 96 = .ok (.getfield 26, 3) := by decide +kernel
theorem dX8_fill_99 : decode cX8_fill 99 = .ok (.aload_n 1, 1) := by decide +kernel
theorem dX8_fill_100 : decode cX8_fill 100 = .ok (.getfield 32, 3) := by decide +kernel
theorem dX8_fill_103 : decode cX8_fill 103 = .ok (.lmul, 1) := by decide +kernel
theorem dX8_fill_104 : decode cX8_fill 104 = .ok (.lstore 18, 2) := by decide +kernel
theorem dX8_fill_106 : decode cX8_fill 106 = .ok (.aload_n 1, 1) := by decide +kernel
theorem dX8_fill_107 : decode cX8_fill 107 = .ok (.getfield 29, 3) := by decide +kernel
theorem dX8_fill_110 : decode cX8_fill 110 = .ok (.aload_n 1, 1) := by decide +kernel
theorem dX8_fill_111 : decode cX8_fill 111 = .ok (.getfield 32, 3) := by decide +kernel
theorem dX8_fill_114 : decode cX8_fill 114 = .ok (.lmul, 1) := by decide +kernel
theorem dX8_fill_115 : decode cX8_fill 115 = .ok (.lstore 20, 2) := by decide +kernel
theorem dX8_fill_117 : decode cX8_fill 117 = .ok (.aload_n 0, 1) := by decide +kernel
theorem dX8_fill_118 : decode cX8_fill 118 = .ok (.getfield 7, 3) := by decide +kernel
theorem dX8_fill_121 : decode cX8_fill 121 = .ok (.iconst 0, 1) := by decide +kernel
theorem dX8_fill_122 : decode cX8_fill 122 = .ok (.lload_n 2, 1) := by decide +kernel
theorem dX8_fill_123 : decode cX8_fill 123 = .ok (.lload 4, 2) := by decide +kernel
theorem dX8_fill_125 : decode cX8_fill 125 = .ok (.ladd, 1) := by decide +kernel
theorem dX8_fill_126 : decode cX8_fill 126 = .ok (.lload 6, 2) := by decide +kernel
theorem dX8_fill_128 : decode cX8_fill 128 = .ok (.lsub, 1) := by decide +kernel
theorem dX8_fill_129 : decode cX8_fill 129 = .ok (.lload 8, 2) := by decide +kernel
theorem dX8_fill_131 : decode cX8_fill 131 = .ok (.lsub, 1) := by decide +kernel
theorem dX8_fill_132 : decode cX8_fill 132 = .ok (.lastore, 1) := by decide +kernel
theorem dX8_fill_133 : decode cX8_fill 133 = .ok (.aload_n 0, 1) := by decide +kernel
theorem dX8_fill_134 : decode cX8_fill 134 = .ok (.getfield 7, 3) := by decide +kernel
theorem dX8_fill_137 : decode cX8_fill 137 = .ok (.iconst 1, 1) := by decide +kernel
theorem dX8_fill_138 : decode cX8_fill 138 = .ok (.ldc2_w 35, 3) := by decide +kernel
theorem dX8_fill_141 : decode cX8_fill 141 = .ok (.lload 16, 2) := by decide +kernel
theorem dX8_fill_143 : decode cX8_fill 143 = .ok (.lload 14, 2) := by decide +kernel
theorem dX8_fill_145 : decode cX8_fill 145 = .ok (.lsub, 1) := by decide +kernel
theorem dX8_fill_146 : decode cX8_fill 146 = .ok (.lmul, 1) := by decide +kernel
theorem dX8_fill_147 : decode cX8_fill 147 = .ok (.lastore, 1) := by decide +kernel
theorem dX8_fill_148 : decode cX8_fill 148 = .ok (.aload_n 0, 1) := by decide +kernel
theorem dX8_fill_149 : decode cX8_fill 149 = .ok (.getfield 7, 3) := by decide +kernel
theorem dX8_fill_152 : decode cX8_fill 152 = .ok (.iconst 2, 1) := by decide +kernel
theorem dX8_fill_153 : decode cX8_fill 153 = .ok (.ldc2_w 35, 3) := by decide +kernel
theorem dX8_fill_156 : decode cX8_fill 156 = .ok (.lload 18, 2) := by decide +kernel
theorem dX8_fill_158 : decode cX8_fill 158 = .ok (.lload 12, 2) := by decide +kernel
theorem dX8_fill_160 : decode cX8_fill 160 = .ok (.ladd, 1) := by decide +kernel
theorem dX8_fill_161 : decode cX8_fill 161 = .ok (.lmul, 1) := by decide +kernel
theorem dX8_fill_162 : decode cX8_fill 162 = .ok (.lastore, 1) := by decide +kernel
theorem dX8_fill_163 : decode cX8_fill 163 = .ok (.aload_n 0, 1) := by decide +kernel
theorem dX8_fill_164 : decode cX8_fill 164 = .ok (.getfield 7, 3) := by decide +kernel
theorem dX8_fill_167 : decode cX8_fill 167 = .ok (.iconst 3, 1) := by decide +kernel
theorem dX8_fill_168 : decode cX8_fill 168 = .ok (.ldc2_w 35, 3) := by decide +kernel
theorem dX8_fill_171 : decode cX8_fill 171 = .ok (.lload 16, 2) := by decide +kernel
theorem dX8_fill_173 : decode cX8_fill 173 = .ok (.lload 14, 2) := by decide +kernel
theorem dX8_fill_175 : decode cX8_fill 175 = .ok (.ladd, 1) := by decide +kernel
theorem dX8_fill_176 : decode cX8_fill 176 = .ok (.lmul, 1) := by decide +kernel
theorem dX8_fill_177 : decode cX8_fill 177 = .ok (.lastore, 1) := by decide +kernel
theorem dX8_fill_178 : decode cX8_fill 178 = .ok (.aload_n 0, 1) := by decide +kernel
theorem dX8_fill_179 : decode cX8_fill 179 = .ok (.getfield 7, 3) := by decide +kernel
theorem dX8_fill_182 : decode cX8_fill 182 = .ok (.iconst 4, 1) := by decide +kernel
theorem dX8_fill_183 : decode cX8_fill 183 = .ok (.lload_n 2, 1) := by decide +kernel
theorem dX8_fill_184 : decode cX8_fill 184 = .ok (.lload 4, 2) := by decide +kernel
theorem dX8_fill_186 : decode cX8_fill 186 = .ok (.lsub, 1) := by decide +kernel
theorem dX8_fill_187 : decode cX8_fill 187 = .ok (.lload 6, 2) := by decide +kernel
theorem dX8_fill_189 : decode cX8_fill 189 = .ok (.ladd, 1) := by decide +kernel
theorem dX8_fill_190 : decode cX8_fill 190 = .ok (.lload 8, 2) := by decide +kernel
theorem dX8_fill_192 : decode cX8_fill 192 = .ok (.lsub, 1) := by decide +kernel
theorem dX8_fill_193 : decode cX8_fill 193 = .ok (.lastore, 1) := by decide +kernel
theorem dX8_fill_194 : decode cX8_fill 194 = .ok (.aload_n 0, 1) := by decide +kernel
theorem dX8_fill_195 : decode cX8_fill 195 = .ok (.getfield 7, 3) := by decide +kernel
theorem dX8_fill_198 : decode cX8_fill 198 = .ok (.iconst 5, 1) := by decide +kernel
theorem dX8_fill_199 : decode cX8_fill 199 = .ok (.ldc2_w 35, 3) := by decide +kernel
theorem dX8_fill_202 : decode cX8_fill 202 = .ok (.lload 20, 2) := by decide +kernel
theorem dX8_fill_204 : decode cX8_fill 204 = .ok (.lload 10, 2) := by decide +kernel
theorem dX8_fill_206 : decode cX8_fill 206 = .ok (.lsub, 1) := by decide +kernel
theorem dX8_fill_207 : decode cX8_fill 207 = .ok (.lmul, 1) := by decide +kernel
theorem dX8_fill_208 : decode cX8_fill 208 = .ok (.lastore, 1) := by decide +kernel
theorem dX8_fill_209 : decode cX8_fill 209 = .ok (.aload_n 0, 1) := by decide +kernel
theorem dX8_fill_210 : decode cX8_fill 210 = .ok (.getfield 7, 3) := by decide +kernel
theorem dX8_fill_213 : decode cX8_fill 213 = .ok (.bipush 6, 2) := by decide +kernel
theorem dX8_fill_215 : decode cX8_fill 215 = .ok (.ldc2_w 35, 3) := by decide +kernel
theorem dX8_fill_218 : decode cX8_fill 218 = .ok (.lload 18, 2) := by decide +kernel
theorem dX8_fill_220 : decode cX8_fill 220 = .ok (.lload 12, 2) := by decide +kernel
theorem dX8_fill_222 : decode cX8_fill 222 = .ok (.lsub, 1) := by decide +kernel
theorem dX8_fill_223 : decode cX8_fill 223 = .ok (.lmul, 1) := by decide +kernel
theorem dX8_fill_224 : decode cX8_fill 224 = .ok (.lastore, 1) := by decide +kernel
theorem dX8_fill_225 : decode cX8_fill 225 = .ok (.aload_n 0, 1) := by decide +kernel
theorem dX8_fill_226 : decode cX8_fill 226 = .ok (.getfield 7, 3) := by decide +kernel
theorem dX8_fill_229 : decode cX8_fill 229 = .ok (.bipush 7, 2) := by decide +kernel
theorem dX8_fill_231 : decode cX8_fill 231 = .ok (.ldc2_w 35, 3) := by decide +kernel
theorem dX8_fill_234 : decode cX8_fill 234 = .ok (.lload 20, 2) := by decide +kernel
theorem dX8_fill_236 : decode cX8_fill 236 = .ok (.lload 10, 2) := by decide +kernel
theorem dX8_fill_238 : decode cX8_fill 238 = .ok (.ladd, 1) := by decide +kernel
theorem dX8_fill_239 : decode cX8_fill 239 = .ok (.lmul, 1) := by decide +kernel
theorem dX8_fill_240 : decode cX8_fill 240 = .ok (.lastore, 1) := by decide +kernel
theorem dX8_fill_241 : decode cX8_fill 241 = .ok (.aload_n 0, 1) := by decide +kernel
theorem dX8_fill_242 : decode cX8_fill 242 = .ok (.getfield 7, 3) := by decide +kernel
theorem dX8_fill_245 : decode cX8_fill 245 = .ok (.bipush 8, 2) := by decide +kernel
theorem dX8_fill_247 : decode cX8_fill 247 = .ok (.lload_n 2, 1) := by decide +kernel
theorem dX8_fill_248 : decode cX8_fill 248 = .ok (.lload 4, 2) := by decide +kernel
theorem dX8_fill_250 : decode cX8_fill 250 = .ok (.lsub, 1) := by decide +kernel
theorem dX8_fill_251 : decode cX8_fill 251 = .ok (.lload 6, 2) := by decide +kernel
theorem dX8_fill_253 : decode cX8_fill 253 = .ok (.lsub, 1) := by decide +kernel
theorem dX8_fill_254 : decode cX8_fill 254 = .ok (.lload 8, 2) := by decide +kernel
theorem dX8_fill_256 : decode cX8_fill 256 = .ok (.ladd, 1) := by decide +kernel
theorem dX8_fill_257 : decode cX8_fill 257 = .ok (.lastore, 1) := by decide +kernel
theorem dX8_fill_258 : decode cX8_fill 258 = .ok (.return_, 1) := by decide +kernel
theorem dX8_upper_0 : decode cX8_upper 0 = .ok (.iload_n 1, 1) := by decide +kernel
theorem dX8_upper_1 : decode cX8_upper 1 = .ok (.iconst 3, 1) := by decide +kernel
theorem dX8_upper_2 : decode cX8_upper 2 = .ok (.invokestatic 37, 3) := by decide +kernel
theorem dX8_upper_5 : decode cX8_upper 5 = .ok (.ifCond .ne 11, 3) := by decide +kernel
theorem dX8_upper_8 : decode cX8_upper 8 = .ok (.iload_n 2, 1) := by decide +kernel
theorem dX8_upper_9 : decode cX8_upper 9 = .ok (.iconst 3, 1) := by decide +kernel
theorem dX8_upper_10 : decode cX8_upper 10 = .ok (.invokestatic 37, 3) := by decide +kernel
theorem dX8_upper_13 : decode cX8_upper 13 = .ok (.ifCond .eq 5, 3) := by decide +kernel
theorem dX8_upper_16 : decode cX8_upper 16 = .ok (.lconst 0, 1) := by decide +kernel
theorem dX8_upper_17 : decode cX8_upper 17 = .ok (.lreturn, 1) := by decide +kernel
theorem dX8_upper_18 : decode cX8_upper 18 = .ok (.aload_n 0, 1) := by decide +kernel
theorem dX8_upper_19 : decode cX8_upper 19 = .ok (.getfield 7, 3) := by decide +kernel
theorem dX8_upper_22 : decode cX8_upper 22 = .ok (.iconst 3, 1) := by decide +kernel
theorem dX8_upper_23 : decode cX8_upper 23 = .ok (.iload_n 1, 1) := by decide +kernel
theorem dX8_upper_24 : decode cX8_upper 24 = .ok (.imul, 1) := by decide +kernel
theorem dX8_upper_25 : decode cX8_upper 25 = .ok (.iload_n 2, 1) := by decide +kernel
theorem dX8_upper_26 : decode cX8_upper 26 = .ok (.iadd, 1) := by decide +kernel
theorem dX8_upper_27 : decode cX8_upper 27 = .ok (.laload, 1) := by decide +kernel
theorem dX8_upper_28 : decode cX8_upper 28 = .ok (.lreturn, 1) := by decide +kernel
theorem dX8_turned_0 : decode cX8_turned 0 = .ok (.aload_n 0, 1) := by decide +kernel
theorem dX8_turned_1 : decode cX8_turned 1 = .ok (.iload 7, 2) := by decide +kernel
theorem dX8_turned_3 : decode cX8_turned 3 = .ok (.iconst 0, 1) := by decide +kernel
theorem dX8_turned_4 : decode cX8_turned 4 = .ok (.invokevirtual 43, 3) := by decide +kernel
theorem dX8_turned_7 : decode cX8_turned 7 = .ok (.lload_n 1, 1) := by decide +kernel
theorem dX8_turned_8 : decode cX8_turned 8 = .ok (.lmul, 1) := by decide +kernel
theorem dX8_turned_9 : decode cX8_turned 9 = .ok (.aload_n 0, 1) := by decide +kernel
theorem dX8_turned_10 : decode cX8_turned 10 = .ok (.iload 7, 2) := by decide +kernel
theorem dX8_turned_12 : decode cX8_turned 12 = .ok (.iconst 1, 1) := by decide +kernel
theorem dX8_turned_13 : decode cX8_turned 13 = .ok (.invokevirtual 43, 3) := by decide +kernel
theorem dX8_turned_16 : decode cX8_turned 16 = .ok (.lload_n 3, 1) := by decide +kernel
theorem dX8_turned_17 : decode cX8_turned 17 = .ok (.lmul, 1) := by decide +kernel
theorem dX8_turned_18 : decode cX8_turned 18 = .ok (.ladd, 1) := by decide +kernel
theorem dX8_turned_19 : decode cX8_turned 19 = .ok (.aload_n 0, 1) := by decide +kernel
theorem dX8_turned_20 : decode cX8_turned 20 = .ok (.iload 7, 2) := by decide +kernel
theorem dX8_turned_22 : decode cX8_turned 22 = .ok (.iconst 2, 1) := by decide +kernel
theorem dX8_turned_23 : decode cX8_turned 23 = .ok (.invokevirtual 43, 3) := by decide +kernel
theorem dX8_turned_26 : decode cX8_turned 26 = .ok (.lload 5, 2) := by decide +kernel
theorem dX8_turned_28 : decode cX8_turned 28 = .ok (.lmul, 1) := by decide +kernel
theorem dX8_turned_29 : decode cX8_turned 29 = .ok (.ladd, 1) := by decide +kernel
theorem dX8_turned_30 : decode cX8_turned 30 = .ok (.lreturn, 1) := by decide +kernel
theorem dX8_isCommon_0 : decode cX8_isCommon 0 = .ok (.aload_n 0, 1) := by decide +kernel
theorem dX8_isCommon_1 : decode cX8_isCommon 1 = .ok (.getfield 13, 3) := by decide +kernel
theorem dX8_isCommon_4 : decode cX8_isCommon 4 = .ok (.lconst 0, 1) := by decide +kernel
theorem dX8_isCommon_5 : decode cX8_isCommon 5 = .ok (.lcmp, 1) := by decide +kernel
theorem dX8_isCommon_6 : decode cX8_isCommon 6 = .ok (.ifCond .ne 5, 3) := by decide +kernel
theorem dX8_isCommon_9 : decode cX8_isCommon 9 = .ok (.iconst 0, 1) := by decide +kernel
theorem dX8_isCommon_10 : decode cX8_isCommon 10 = .ok (.ireturn, 1) := by decide +kernel
theorem dX8_isCommon_11 : decode cX8_isCommon 11 = .ok (.iconst 0, 1) := by decide +kernel
theorem dX8_isCommon_12 : decode cX8_isCommon 12 = .ok (.istore 7, 2) := by decide +kernel
theorem dX8_isCommon_14 : decode cX8_isCommon 14 = .ok (.iload 7, 2) := by decide +kernel
theorem dX8_isCommon_16 : decode cX8_isCommon 16 = .ok (.iconst 3, 1) := by decide +kernel
theorem dX8_isCommon_17 : decode cX8_isCommon 17 = .ok (.if_icmp .ge 55, 3) := by decide +kernel
theorem dX8_isCommon_20 : decode cX8_isCommon 20 = .ok (.aload_n 0, 1) := by decide +kernel
theorem dX8_isCommon_21 : decode cX8_isCommon 21 = .ok (.iconst 0, 1) := by decide +kernel
theorem dX8_isCommon_22 : decode cX8_isCommon 22 = .ok (.iload 7, 2) := by decide +kernel
theorem dX8_isCommon_24 : decode cX8_isCommon 24 = .ok (.invokevirtual 43, 3) := by decide +kernel
theorem dX8_isCommon_27 : decode cX8_isCommon 27 = .ok (.lload_n 1, 1) := by decide +kernel
theorem dX8_isCommon_28 : decode cX8_isCommon 28 = .ok (.lmul, 1) := by decide +kernel
theorem dX8_isCommon_29 : decode cX8_isCommon 29 = .ok (.aload_n 0, 1) := by decide +kernel
theorem dX8_isCommon_30 : decode cX8_isCommon 30 = .ok (.iconst 1, 1) := by decide +kernel
theorem dX8_isCommon_31 : decode cX8_isCommon 31 = .ok (.iload 7, 2) := by decide +kernel
theorem dX8_isCommon_33 : decode cX8_isCommon 33 = .ok (.invokevirtual 43, 3) := by decide +kernel
theorem dX8_isCommon_36 : decode cX8_isCommon 36 = .ok (.lload_n 3, 1) := by decide +kernel
theorem dX8_isCommon_37 : decode cX8_isCommon 37 = .ok (.lmul, 1) := by decide +kernel
theorem dX8_isCommon_38 : decode cX8_isCommon 38 = .ok (.ladd, 1) := by decide +kernel
theorem dX8_isCommon_39 : decode cX8_isCommon 39 = .ok (.aload_n 0, 1) := by decide +kernel
theorem dX8_isCommon_40 : decode cX8_isCommon 40 = .ok (.iconst 2, 1) := by decide +kernel
theorem dX8_isCommon_41 : decode cX8_isCommon 41 = .ok (.iload 7, 2) := by decide +kernel
theorem dX8_isCommon_43 : decode cX8_isCommon 43 = .ok (.invokevirtual 43, 3) := by decide +kernel
theorem dX8_isCommon_46 : decode cX8_isCommon 46 = .ok (.lload 5, 2) := by decide +kernel
theorem dX8_isCommon_48 : decode cX8_isCommon 48 = .ok (.lmul, 1) := by decide +kernel
theorem dX8_isCommon_49 : decode cX8_isCommon 49 = .ok (.ladd, 1) := by decide +kernel
theorem dX8_isCommon_50 : decode cX8_isCommon 50 = .ok (.lstore 8, 2) := by decide +kernel
theorem dX8_isCommon_52 : decode cX8_isCommon 52 = .ok (.lload 8, 2) := by decide +kernel
theorem dX8_isCommon_54 : decode cX8_isCommon 54 = .ok (.aload_n 0, 1) := by decide +kernel
theorem dX8_isCommon_55 : decode cX8_isCommon 55 = .ok (.getfield 13, 3) := by decide +kernel
theorem dX8_isCommon_58 : decode cX8_isCommon 58 = .ok (.lrem, 1) := by decide +kernel
theorem dX8_isCommon_59 : decode cX8_isCommon 59 = .ok (.lconst 0, 1) := by decide +kernel
theorem dX8_isCommon_60 : decode cX8_isCommon 60 = .ok (.lcmp, 1) := by decide +kernel
theorem dX8_isCommon_61 : decode cX8_isCommon 61 = .ok (.ifCond .eq 5, 3) := by decide +kernel
theorem dX8_isCommon_64 : decode cX8_isCommon 64 = .ok (.iconst 0, 1) := by decide +kernel
theorem dX8_isCommon_65 : decode cX8_isCommon 65 = .ok (.ireturn, 1) := by decide +kernel
theorem dX8_isCommon_66 : decode cX8_isCommon 66 = .ok (.iinc 7 1, 3) := by decide +kernel
theorem dX8_isCommon_69 : decode cX8_isCommon 69 = .ok (.goto (-55), 3) := by decide +kernel
theorem dX8_isCommon_72 : decode cX8_isCommon 72 = .ok (.iconst 1, 1) := by decide +kernel
theorem dX8_isCommon_73 : decode cX8_isCommon 73 = .ok (.ireturn, 1) := by decide +kernel
theorem dX9_init_0 : decode cX9_init 0 = .ok (.aload_n 0, 1) := by decide +kernel
theorem dX9_init_1 : decode cX9_init 1 = .ok (.invokespecial 3, 3) := by decide +kernel
theorem dX9_init_4 : decode cX9_init 4 = .ok (.aload_n 0, 1) := by decide +kernel
theorem dX9_init_5 : decode cX9_init 5 = .ok (.bipush 100, 2) := by decide +kernel
theorem dX9_init_7 : decode cX9_init 7 = .ok (.newarray .long, 2) := by decide +kernel
theorem dX9_init_9 : decode cX9_init 9 = .ok (.putfield 9, 3) := by decide +kernel
theorem dX9_init_12 : decode cX9_init 12 = .ok (.aload_n 0, 1) := by decide +kernel
theorem dX9_init_13 : decode cX9_init 13 = .ok (.iconst (-1), 1) := by decide +kernel
theorem dX9_init_14 : decode cX9_init 14 = .ok (.putfield 15, 3) := by decide +kernel
theorem dX9_init_17 : decode cX9_init 17 = .ok (.aload_n 0, 1) := by decide +kernel
theorem dX9_init_18 : decode cX9_init 18 = .ok (.iconst 0, 1) := by decide +kernel
theorem dX9_init_19 : decode cX9_init 19 = .ok (.putfield 19, 3) := by decide +kernel
theorem dX9_init_22 : decode cX9_init 22 = .ok (.return_, 1) := by decide +kernel
theorem dX9_begin_0 : decode cX9_begin 0 = .ok (.aload_n 0, 1) := by decide +kernel
theorem dX9_begin_1 : decode cX9_begin 1 = .ok (.iload_n 1, 1) := by decide +kernel
theorem dX9_begin_2 : decode cX9_begin 2 = .ok (.putfield 15, 3) := by decide +kernel
theorem dX9_begin_5 : decode cX9_begin 5 = .ok (.aload_n 0, 1) := by decide +kernel
theorem dX9_begin_6 : decode cX9_begin 6 = .ok (.iload_n 2, 1) := by decide +kernel
theorem dX9_begin_7 : decode cX9_begin 7 = .ok (.putfield 19, 3) := by decide +kernel
theorem dX9_begin_10 : decode cX9_begin 10 = .ok (.iconst 0, 1) := by decide +kernel
theorem dX9_begin_11 : decode cX9_begin 11 = .ok (.istore_n 3, 1) := by decide +kernel
theorem dX9_begin_12 : decode cX9_begin 12 = .ok (.iload_n 3, 1) := by decide +kernel
theorem dX9_begin_13 : decode cX9_begin 13 = .ok (.aload_n 0, 1) := by decide +kernel
theorem dX9_begin_14 : decode cX9_begin 14 = .ok (.getfield 9, 3) := by decide +kernel
theorem dX9_begin_17 : decode cX9_begin 17 = .ok (.arraylength, 1) := by decide +kernel
theorem dX9_begin_18 : decode cX9_begin 18 = .ok (.if_icmp .ge 16, 3) := by decide +kernel
theorem dX9_begin_21 : decode cX9_begin 21 = .ok (.aload_n 0, 1) := by decide +kernel
theorem dX9_begin_22 : decode cX9_begin 22 = .ok (.getfield 9, 3) := by decide +kernel
theorem dX9_begin_25 : decode cX9_begin 25 = .ok (.iload_n 3, 1) := by decide +kernel
theorem dX9_begin_26 : decode cX9_begin 26 = .ok (.lconst 0, 1) := by decide +kernel
theorem dX9_begin_27 : decode cX9_begin 27 = .ok (.lastore, 1) := by decide +kernel
theorem dX9_begin_28 : decode cX9_begin 28 = .ok (.iinc 3 1, 3) := by decide +kernel
theorem dX9_begin_31 : decode cX9_begin 31 = .ok (.goto (-19), 3) := by decide +kernel
theorem dX9_begin_34 : decode cX9_begin 34 = .ok (.return_, 1) := by decide +kernel
theorem dX9_hasRun_0 : decode cX9_hasRun 0 = .ok (.iload_n 1, 1) := by decide +kernel
theorem dX9_hasRun_1 : decode cX9_hasRun 1 = .ok (.ifCond .lt 29, 3) := by decide +kernel
theorem dX9_hasRun_4 : decode cX9_hasRun 4 = .ok (.iload_n 2, 1) := by decide +kernel
theorem dX9_hasRun_5 : decode cX9_hasRun 5 = .ok (.ifCond .lt 25, 3) := by decide +kernel
theorem dX9_hasRun_8 : decode cX9_hasRun 8 = .ok (.iload_n 2, 1) := by decide +kernel
theorem dX9_hasRun_9 : decode cX9_hasRun 9 = .ok (.aload_n 0, 1) := by decide +kernel
theorem dX9_hasRun_10 : decode cX9_hasRun 10 = .ok (.getfield 19, 3) := by decide +kernel
theorem dX9_hasRun_13 : decode cX9_hasRun 13 = .ok (.if_icmp .gt 17, 3) := by decide +kernel
theorem dX9_hasRun_16 : decode cX9_hasRun 16 = .ok (.iload_n 1, 1) := by decide +kernel
theorem dX9_hasRun_17 : decode cX9_hasRun 17 = .ok (.aload_n 0, 1) := by decide +kernel
theorem dX9_hasRun_18 : decode cX9_hasRun 18 = .ok (.getfield 19, 3) := by decide +kernel
theorem dX9_hasRun_21 : decode cX9_hasRun 21 = .ok (.iload_n 2, 1) := by decide +kernel
theorem dX9_hasRun_22 : decode cX9_hasRun 22 = .ok (.isub, 1) := by decide +kernel
theorem dX9_hasRun_23 : decode cX9_hasRun 23 = .ok (.if_icmp .gt 7, 3) := by decide +kernel
theorem dX9_hasRun_26 : decode cX9_hasRun 26 = .ok (.iconst 1, 1) := by decide +kernel
theorem dX9_hasRun_27 : decode cX9_hasRun 27 = .ok (.goto 4, 3) := by decide +kernel
theorem dX9_hasRun_30 : decode cX9_hasRun 30 = .ok (.iconst 0, 1) := by decide +kernel
theorem dX9_hasRun_31 : decode cX9_hasRun 31 = .ok (.ireturn, 1) := by decide +kernel
theorem dX9_item_0 : decode cX9_item 0 = .ok (.iload_n 1, 1) := by decide +kernel
theorem dX9_item_1 : decode cX9_item 1 = .ok (.ifCond .lt 12, 3) := by decide +kernel
theorem dX9_item_4 : decode cX9_item 4 = .ok (.iload_n 1, 1) := by decide +kernel
theorem dX9_item_5 : decode cX9_item 5 = .ok (.aload_n 0, 1) := by decide +kernel
theorem dX9_item_6 : decode cX9_item 6 = .ok (.getfield 9, 3) := by decide +kernel
theorem dX9_item_9 : decode cX9_item 9 = .ok (.arraylength, 1) := by decide +kernel
theorem dX9_item_10 : decode cX9_item 10 = .ok (.if_icmp .lt 7, 3) := by decide +kernel
theorem dX9_item_13 : decode cX9_item 13 = .ok (.lconst 0, 1) := by decide +kernel
theorem dX9_item_14 : decode cX9_item 14 = .ok (.goto 9, 3) := by decide +kernel
theorem dX9_item_17 : decode cX9_item 17 = .ok (.aload_n 0, 1) := by decide +kernel
theorem dX9_item_18 : decode cX9_item 18 = .ok (.getfield 9, 3) := by decide +kernel
theorem dX9_item_21 : decode cX9_item 21 = .ok (.iload_n 1, 1) := by decide +kernel
theorem dX9_item_22 : decode cX9_item 22 = .ok (.laload, 1) := by decide +kernel
theorem dX9_item_23 : decode cX9_item 23 = .ok (.lreturn, 1) := by decide +kernel
theorem dX9_write_0 : decode cX9_write 0 = .ok (.iload_n 1, 1) := by decide +kernel
theorem dX9_write_1 : decode cX9_write 1 = .ok (.ifCond .lt 12, 3) := by decide +kernel
theorem dX9_write_4 : decode cX9_write 4 = .ok (.iload_n 1, 1) := by decide +kernel
theorem dX9_write_5 : decode cX9_write 5 = .ok (.aload_n 0, 1) := by decide +kernel
theorem dX9_write_6 : decode cX9_write 6 = .ok (.getfield 9, 3) := by decide +kernel
theorem dX9_write_9 : decode cX9_write 9 = .ok (.arraylength, 1) := by decide +kernel
theorem dX9_write_10 : decode cX9_write 10 = .ok (.if_icmp .lt 4, 3) := by decide +kernel
theorem dX9_write_13 : decode cX9_write 13 = .ok (.return_, 1) := by decide +kernel
theorem dX9_write_14 : decode cX9_write 14 = .ok (.aload_n 0, 1) := by decide +kernel
theorem dX9_write_15 : decode cX9_write 15 = .ok (.getfield 9, 3) := by decide +kernel
theorem dX9_write_18 : decode cX9_write 18 = .ok (.iload_n 1, 1) := by decide +kernel
theorem dX9_write_19 : decode cX9_write 19 = .ok (.aload_n 0, 1) := by decide +kernel
theorem dX9_write_20 : decode cX9_write 20 = .ok (.getfield 15, 3) := by decide +kernel
theorem dX9_write_23 : decode cX9_write 23 = .ok (.ifCond .ne 10, 3) := by decide +kernel
theorem dX9_write_26 : decode cX9_write 26 = .ok (.lload_n 2, 1) := by decide +kernel
theorem dX9_write_27 : decode cX9_write 27 = .ok (.l2i, 1) := by decide +kernel
theorem dX9_write_28 : decode cX9_write 28 = .ok (.i2b, 1) := by decide +kernel
theorem dX9_write_29 : decode cX9_write 29 = .ok (.i2l, 1) := by decide +kernel
theorem dX9_write_30 : decode cX9_write 30 = .ok (.goto 18, 3) := by decide +kernel
theorem dX9_write_33 : decode cX9_write 33 = .ok (.aload_n 0, 1) := by decide +kernel
theorem dX9_write_34 : decode cX9_write 34 = .ok (.getfield 15, 3) := by decide +kernel
theorem dX9_write_37 : decode cX9_write 37 = .ok (.iconst 1, 1) := by decide +kernel
theorem dX9_write_38 : decode cX9_write 38 = .ok (.if_icmp .ne 9, 3) := by decide +kernel
theorem dX9_write_41 : decode cX9_write 41 = .ok (.lload_n 2, 1) := by decide +kernel
theorem dX9_write_42 : decode cX9_write 42 = .ok (.l2i, 1) := by decide +kernel
theorem dX9_write_43 : decode cX9_write 43 = .ok (.i2l, 1) := by decide +kernel
theorem dX9_write_44 : decode cX9_write 44 = .ok (.goto 4, 3) := by decide +kernel
theorem dX9_write_47 : decode cX9_write 47 = .ok (.lload_n 2, 1) := by decide +kernel
theorem dX9_write_48 : decode cX9_write 48 = .ok (.lastore, 1) := by decide +kernel
theorem dX9_write_49 : decode cX9_write 49 = .ok (.return_, 1) := by decide +kernel
theorem dX10_init_0 : decode cX10_init 0 = .ok (.aload_n 0, 1) := by decide +kernel
theorem dX10_init_1 : decode cX10_init 1 = .ok (.invokespecial 1, 3) := by decide +kernel
theorem dX10_init_4 : decode cX10_init 4 = .ok (.aload_n 0, 1) := by decide +kernel
theorem dX10_init_5 : decode cX10_init 5 = .ok (.bipush 8, 2) := by decide +kernel
theorem dX10_init_7 : decode cX10_init 7 = .ok (.anewarray 9, 3) := by decide +kernel
theorem dX10_init_10 : decode cX10_init 10 = .ok (.putfield 11, 3) := by decide +kernel
theorem dX10_init_13 : decode cX10_init 13 = .ok (.iconst 0, 1) := by decide +kernel
theorem dX10_init_14 : decode cX10_init 14 = .ok (.istore_n 1, 1) := by decide +kernel
theorem dX10_init_15 : decode cX10_init 15 = .ok (.iload_n 1, 1) := by decide +kernel
theorem dX10_init_16 : decode cX10_init 16 = .ok (.bipush 8, 2) := by decide +kernel
theorem dX10_init_18 : decode cX10_init 18 = .ok (.if_icmp .ge 22, 3) := by decide +kernel
theorem dX10_init_21 : decode cX10_init 21 = .ok (.aload_n 0, 1) := by decide +kernel
theorem dX10_init_22 : decode cX10_init 22 = .ok (.getfield 11, 3) := by decide +kernel
theorem dX10_init_25 : decode cX10_init 25 = .ok (.iload_n 1, 1) := by decide +kernel
theorem dX10_init_26 : decode cX10_init 26 = .ok (.new 9, 3) := by decide +kernel
theorem dX10_init_29 : decode cX10_init 29 = .ok (.dup, 1) := by decide +kernel
theorem dX10_init_30 : decode cX10_init 30 = .ok (.invokespecial 15, 3) := by decide +kernel
theorem dX10_init_33 : decode cX10_init 33 = .ok (.aastore, 1) := by decide +kernel
theorem dX10_init_34 : decode cX10_init 34 = .ok (.iinc 1 1, 3) := by decide +kernel
theorem dX10_init_37 : decode cX10_init 37 = .ok (.goto (-22), 3) := by decide +kernel
theorem dX10_init_40 : decode cX10_init 40 = .ok (.aload_n 0, 1) := by decide +kernel
theorem dX10_init_41 : decode cX10_init 41 = .ok (.bipush 20, 2) := by decide +kernel
theorem dX10_init_43 : decode cX10_init 43 = .ok (.anewarray 16, 3) := by decide +kernel
theorem dX10_init_46 : decode cX10_init 46 = .ok (.putfield 18, 3) := by decide +kernel
theorem dX10_init_49 : decode cX10_init 49 = .ok (.aload_n 0, 1) := by decide +kernel
theorem dX10_init_50 : decode cX10_init 50 = .ok (.bipush 20, 2) := by decide +kernel
theorem dX10_init_52 : decode cX10_init 52 = .ok (.newarray .int, 2) := by decide +kernel
theorem dX10_init_54 : decode cX10_init 54 = .ok (.putfield 22, 3) := by decide +kernel
theorem dX10_init_57 : decode cX10_init 57 = .ok (.iconst 0, 1) := by decide +kernel
theorem dX10_init_58 : decode cX10_init 58 = .ok (.istore_n 1, 1) := by decide +kernel
theorem dX10_init_59 : decode cX10_init 59 = .ok (.iload_n 1, 1) := by decide +kernel
theorem dX10_init_60 : decode cX10_init 60 = .ok (.bipush 20, 2) := by decide +kernel
theorem dX10_init_62 : decode cX10_init 62 = .ok (.if_icmp .ge 29, 3) := by decide +kernel
theorem dX10_init_65 : decode cX10_init 65 = .ok (.aload_n 0, 1) := by decide +kernel
theorem dX10_init_66 : decode cX10_init 66 = .ok (.getfield 18, 3) := by decide +kernel
theorem dX10_init_69 : decode cX10_init 69 = .ok (.iload_n 1, 1) := by decide +kernel
theorem dX10_init_70 : decode cX10_init 70 = .ok (.new 16, 3) := by decide +kernel
theorem dX10_init_73 : decode cX10_init 73 = .ok (.dup, 1) := by decide +kernel
theorem dX10_init_74 : decode cX10_init 74 = .ok (.invokespecial 26, 3) := by decide +kernel
theorem dX10_init_77 : decode cX10_init 77 = .ok (.aastore, 1) := by decide +kernel
theorem dX10_init_78 : decode cX10_init 78 = .ok (.aload_n 0, 1) := by decide +kernel
theorem dX10_init_79 : decode cX10_init 79 = .ok (.getfield 22, 3) := by decide +kernel
theorem dX10_init_82 : decode cX10_init 82 = .ok (.iload_n 1, 1) := by decide +kernel
theorem dX10_init_83 : decode cX10_init 83 = .ok (.iconst (-1), 1) := by decide +kernel
theorem dX10_init_84 : decode cX10_init 84 = .ok (.iastore, 1) := by decide +kernel
theorem dX10_init_85 : decode cX10_init 85 = .ok (.iinc 1 1, 3) := by decide +kernel
theorem dX10_init_88 : decode cX10_init 88 = .ok (.goto (-29), 3) := by decide +kernel
theorem dX10_init_91 : decode cX10_init 91 = .ok (.aload_n 0, 1) := by decide +kernel
theorem dX10_init_92 : decode cX10_init 92 = .ok (.new 16, 3) := by decide +kernel
theorem dX10_init_95 : decode cX10_init 95 = .ok (.dup, 1) := by decide +kernel
theorem dX10_init_96 : decode cX10_init 96 = .ok (.invokespecial 26, 3) := by decide +kernel
theorem dX10_init_99 : decode cX10_init 99 = .ok (.putfield 27, 3) := by decide +kernel
theorem dX10_init_102 : decode cX10_init 102 = .ok (.aload_n 0, 1) := by decide +kernel
theorem dX10_init_103 : decode cX10_init 103 = .ok (.new 31, 3) := by decide +kernel
theorem dX10_init_106 : decode cX10_init 106 = .ok (.dup, 1) := by decide +kernel
theorem dX10_init_107 : decode cX10_init 107 = .ok (.invokespecial 33, 3) := by decide +kernel
theorem dX10_init_110 : decode cX10_init 110 = .ok (.putfield 34, 3) := by decide +kernel
theorem dX10_init_113 : decode cX10_init 113 = .ok (.aload_n 0, 1) := by decide +kernel
theorem dX10_init_114 : decode cX10_init 114 = .ok (.new 38, 3) := by decide +kernel
theorem dX10_init_117 : decode cX10_init 117 = .ok (.dup, 1) := by decide +kernel
theorem dX10_init_118 : decode cX10_init 118 = .ok (.invokespecial 40, 3) := by decide +kernel
theorem dX10_init_121 : decode cX10_init 121 = .ok (.putfield 41, 3) := by decide +kernel
theorem dX10_init_124 : decode cX10_init 124 = .ok (.aload_n 0, 1) := by decide +kernel
theorem dX10_init_125 : decode cX10_init 125 = .ok (.new 45, 3) := by decide +kernel
theorem dX10_init_128 : decode cX10_init 128 = .ok (.dup, 1) := by decide +kernel
theorem dX10_init_129 : decode cX10_init 129 = .ok (.invokespecial 47, 3) := by decide +kernel
theorem dX10_init_132 : decode cX10_init 132 = .ok (.putfield 48, 3) := by decide +kernel
theorem dX10_init_135 : decode cX10_init 135 = .ok (.aload_n 0, 1) := by decide +kernel
theorem dX10_init_136 : decode cX10_init 136 = .ok (.new 52, 3) := by decide +kernel
theorem dX10_init_139 : decode cX10_init 139 = .ok (.dup, 1) := by decide +kernel
theorem dX10_init_140 : decode cX10_init 140 = .ok (.invokespecial 54, 3) := by decide +kernel
theorem dX10_init_143 : decode cX10_init 143 = .ok (.putfield 55, 3) := by decide +kernel
theorem dX10_init_146 : decode cX10_init 146 = .ok (.aload_n 0, 1) := by decide +kernel
theorem dX10_init_147 : decode cX10_init 147 = .ok (.new 59, 3) := by decide +kernel
theorem dX10_init_150 : decode cX10_init 150 = .ok (.dup, 1) := by decide +kernel
theorem dX10_init_151 : decode cX10_init 151 = .ok (.invokespecial 61, 3) := by decide +kernel
theorem dX10_init_154 : decode cX10_init 154 = .ok (.putfield 62, 3) := by decide +kernel
theorem dX10_init_157 : decode cX10_init 157 = .ok (.aload_n 0, 1) := by decide +kernel
theorem dX10_init_158 : decode cX10_init 158 = .ok (.new 66, 3) := by decide +kernel
theorem dX10_init_161 : decode cX10_init 161 = .ok (.dup, 1) := by decide +kernel
theorem dX10_init_162 : decode cX10_init 162 = .ok (.invokespecial 68, 3) := by decide +kernel
theorem dX10_init_165 : decode cX10_init 165 = .ok (.putfield 69, 3) := by decide +kernel
theorem dX10_init_168 : decode cX10_init 168 = .ok (.aload_n 0, 1) := by decide +kernel
theorem dX10_init_169 : decode cX10_init 169 = .ok (.new 73, 3) := by decide +kernel
theorem dX10_init_172 : decode cX10_init 172 = .ok (.dup, 1) := by decide +kernel
theorem dX10_init_173 : decode cX10_init 173 = .ok (.invokespecial 75, 3) := by decide +kernel
theorem dX10_init_176 : decode cX10_init 176 = .ok (.putfield 76, 3) := by decide +kernel
theorem dX10_init_179 : decode cX10_init 179 = .ok (.aload_n 0, 1) := by decide +kernel
theorem dX10_init_180 : decode cX10_init 180 = .ok (.new 80, 3) := by decide +kernel
theorem dX10_init_183 : decode cX10_init 183 = .ok (.dup, 1) := by decide +kernel
theorem dX10_init_184 : decode cX10_init 184 = .ok (.invokespecial 82, 3) := by decide +kernel
theorem dX10_init_187 : decode cX10_init 187 = .ok (.putfield 83, 3) := by decide +kernel
theorem dX10_init_190 : decode cX10_init 190 = .ok (.aload_n 0, 1) := by decide +kernel
theorem dX10_init_191 : decode cX10_init 191 = .ok (.iconst 0, 1) := by decide +kernel
theorem dX10_init_192 : decode cX10_init 192 = .ok (.putfield 87, 3) := by decide +kernel
theorem dX10_init_195 : decode cX10_init 195 = .ok (.return_, 1) := by decide +kernel
theorem dX10_tray_0 : decode cX10_tray 0 = .ok (.iload_n 1, 1) := by decide +kernel
theorem dX10_tray_1 : decode cX10_tray 1 = .ok (.bipush 8, 2) := by decide +kernel
theorem dX10_tray_3 : decode cX10_tray 3 = .ok (.invokestatic 91, 3) := by decide +kernel
theorem dX10_tray_6 : decode cX10_tray 6 = .ok (.ifCond .ne 17, 3) := by decide +kernel
theorem dX10_tray_9 : decode cX10_tray 9 = .ok (.iload_n 2, 1) := by decide +kernel
theorem dX10_tray_10 : decode cX10_tray 10 = .ok (.iconst 3, 1) := by decide +kernel
theorem dX10_tray_11 : decode cX10_tray 11 = .ok (.invokestatic 91, 3) := by decide +kernel
theorem dX10_tray_14 : decode cX10_tray 14 = .ok (.ifCond .ne 9, 3) := by decide +kernel
theorem dX10_tray_17 : decode cX10_tray 17 = .ok (.iload_n 3, 1) := by decide +kernel
theorem dX10_tray_18 : decode cX10_tray 18 = .ok (.bipush 100, 2) := by decide +kernel
theorem dX10_tray_20 : decode cX10_tray 20 = .ok (.if_icmp .le 6, 3) := by decide +kernel
theorem dX10_tray_23 : decode cX10_tray 23 = .ok (.ldc 95, 2) := by decide +kernel
theorem dX10_tray_25 : decode cX10_tray 25 = .ok (.ireturn, 1) := by decide +kernel
theorem dX10_tray_26 : decode cX10_tray 26 = .ok (.iload_n 3, 1) := by decide +kernel
theorem dX10_tray_27 : decode cX10_tray 27 = .ok (.ifCond .ge 9, 3) := by decide +kernel
theorem dX10_tray_30 : decode cX10_tray 30 = .ok (.aload_n 0, 1) := by decide +kernel
theorem dX10_tray_31 : decode cX10_tray 31 = .ok (.iconst 4, 1) := by decide +kernel
theorem dX10_tray_32 : decode cX10_tray 32 = .ok (.invokevirtual 96, 3) := by decide +kernel
theorem dX10_tray_35 : decode cX10_tray 35 = .ok (.ireturn, 1) := by decide +kernel
theorem dX10_tray_36 : decode cX10_tray 36 = .ok (.aload_n 0, 1) := by decide +kernel
theorem dX10_tray_37 : decode cX10_tray 37 = .ok (.getfield 11, 3) := by decide +kernel
theorem dX10_tray_40 : decode cX10_tray 40 = .ok (.iload_n 1, 1) := by decide +kernel
theorem dX10_tray_41 : decode cX10_tray 41 = .ok (.aaload, 1) := by decide +kernel
theorem dX10_tray_42 : decode cX10_tray 42 = .ok (.astore 4, 2) := by decide +kernel
theorem dX10_tray_44 : decode cX10_tray 44 = .ok (.aload 4, 2) := by decide +kernel
theorem dX10_tray_46 : decode cX10_tray 46 = .ok (.ifnonnull 9, 3) := by decide +kernel
theorem dX10_tray_49 : decode cX10_tray 49 = .ok (.aload_n 0, 1) := by decide +kernel
theorem dX10_tray_50 : decode cX10_tray 50 = .ok (.iconst 1, 1) := by decide +kernel
theorem dX10_tray_51 : decode cX10_tray 51 = .ok (.invokevirtual 96, 3) := by decide +kernel
theorem dX10_tray_54 : decode cX10_tray 54 = .ok (.ireturn, 1) := by decide +kernel
theorem dX10_tray_55 : decode cX10_tray 55 = .ok (.aload 4, 2) := by decide +kernel
theorem dX10_tray_57 : decode cX10_tray 57 = .ok (.iload_n 2, 1) := by decide +kernel
theorem dX10_tray_58 : decode cX10_tray 58 = .ok (.iload_n 3, 1) := by decide +kernel
theorem dX10_tray_59 : decode cX10_tray 59 = .ok (.invokevirtual 100, 3) := by decide +kernel
theorem dX10_tray_62 : decode cX10_tray 62 = .ok (.aload_n 0, 1) := by decide +kernel
theorem dX10_tray_63 : decode cX10_tray 63 = .ok (.iload_n 3, 1) := by decide +kernel
theorem dX10_tray_64 : decode cX10_tray 64 = .ok (.invokevirtual 104, 3) := by decide +kernel
theorem dX10_tray_67 : decode cX10_tray 67 = .ok (.ireturn, 1) := by decide +kernel
theorem dX10_set_0 : decode cX10_set 0 = .ok (.iload_n 1, 1) := by decide +kernel
theorem dX10_set_1 : decode cX10_set 1 = .ok (.bipush 8, 2) := by decide +kernel
theorem dX10_set_3 : decode cX10_set 3 = .ok (.invokestatic 91, 3) := by decide +kernel
theorem dX10_set_6 : decode cX10_set 6 = .ok (.ifCond .eq 7, 3) := by decide +kernel
theorem dX10_set_9 : decode cX10_set 9 = .ok (.ldc2_w 107, 3) := by decide +kernel
theorem dX10_set_12 : decode cX10_set 12 = .ok (.lreturn, 1) := by decide +kernel
theorem dX10_set_13 : decode cX10_set 13 = .ok (.aload_n 0, 1) := by decide +kernel
theorem dX10_set_14 : decode cX10_set 14 = .ok (.iload_n 1, 1) := by decide +kernel
theorem dX10_set_15 : decode cX10_set 15 = .ok (.invokevirtual 109, 3) := by decide +kernel
theorem dX10_set_18 : decode cX10_set 18 = .ok (.astore 5, 2) := by decide +kernel
theorem dX10_set_20 : decode cX10_set 20 = .ok (.aload 5, 2) := by decide +kernel
theorem dX10_set_22 : decode cX10_set 22 = .ok (.ifnonnull 10, 3) := by decide +kernel
theorem dX10_set_25 : decode cX10_set 25 = .ok (.aload_n 0, 1) := by decide +kernel
theorem dX10_set_26 : decode cX10_set 26 = .ok (.iconst 1, 1) := by decide +kernel
theorem dX10_set_27 : decode cX10_set 27 = .ok (.invokevirtual 96, 3) := by decide +kernel
theorem dX10_set_30 : decode cX10_set 30 = .ok (.i2l, 1) := by decide +kernel
theorem dX10_set_31 : decode cX10_set 31 = .ok (.lreturn, 1) := by decide +kernel
theorem dX10_set_32 : decode cX10_set 32 = .ok (.iload_n 2, 1) := by decide +kernel
theorem dX10_set_33 : decode cX10_set 33 = .ok (.aload 5, 2) := by decide +kernel
theorem dX10_set_35 : decode cX10_set 35 = .ok (.getfield 113, 3) := by decide +kernel
theorem dX10_set_38 : decode cX10_set 38 = .ok (.invokestatic 91, 3) := by decide +kernel
theorem dX10_set_41 : decode cX10_set 41 = .ok (.ifCond .eq 10, 3) := by decide +kernel
theorem dX10_set_44 : decode cX10_set 44 = .ok (.aload_n 0, 1) := by decide +kernel
theorem dX10_set_45 : decode cX10_set 45 = .ok (.iconst 2, 1) := by decide +kernel
theorem dX10_set_46 : decode cX10_set 46 = .ok (.invokevirtual 96, 3) := by decide +kernel
theorem dX10_set_49 : decode cX10_set 49 = .ok (.i2l, 1) := by decide +kernel
theorem dX10_set_50 : decode cX10_set 50 = .ok (.lreturn, 1) := by decide +kernel
theorem dX10_set_51 : decode cX10_set 51 = .ok (.aload 5, 2) := by decide +kernel
theorem dX10_set_53 : decode cX10_set 53 = .ok (.iload_n 2, 1) := by decide +kernel
theorem dX10_set_54 : decode cX10_set 54 = .ok (.lload_n 3, 1) := by decide +kernel
theorem dX10_set_55 : decode cX10_set 55 = .ok (.invokevirtual 116, 3) := by decide +kernel
theorem dX10_set_58 : decode cX10_set 58 = .ok (.aload_n 0, 1) := by decide +kernel
theorem dX10_set_59 : decode cX10_set 59 = .ok (.iconst 0, 1) := by decide +kernel
theorem dX10_set_60 : decode cX10_set 60 = .ok (.putfield 87, 3) := by decide +kernel
theorem dX10_set_63 : decode cX10_set 63 = .ok (.aload 5, 2) := by decide +kernel
theorem dX10_set_65 : decode cX10_set 65 = .ok (.iload_n 2, 1) := by decide +kernel
theorem dX10_set_66 : decode cX10_set 66 = .ok (.invokevirtual 120, 3) := by decide +kernel
theorem dX10_set_69 : decode cX10_set 69 = .ok (.lreturn, 1) := by decide +kernel
theorem dX10_copy_0 : decode cX10_copy 0 = .ok (.iload_n 1, 1) := by decide +kernel
theorem dX10_copy_1 : decode cX10_copy 1 = .ok (.bipush 8, 2) := by decide +kernel
theorem dX10_copy_3 : decode cX10_copy 3 = .ok (.invokestatic 91, 3) := by decide +kernel
theorem dX10_copy_6 : decode cX10_copy 6 = .ok (.ifCond .ne 12, 3) := by decide +kernel
theorem dX10_copy_9 : decode cX10_copy 9 = .ok (.iload_n 3, 1) := by decide +kernel
theorem dX10_copy_10 : decode cX10_copy 10 = .ok (.bipush 8, 2) := by decide +kernel
theorem dX10_copy_12 : decode cX10_copy 12 = .ok (.invokestatic 91, 3) := by decide +kernel
theorem dX10_copy_15 : decode cX10_copy 15 = .ok (.ifCond .eq 6, 3) := by decide +kernel
theorem dX10_copy_18 : decode cX10_copy 18 = .ok (.ldc 95, 2) := by decide +kernel
theorem dX10_copy_20 : decode cX10_copy 20 = .ok (.ireturn, 1) := by decide +kernel
theorem dX10_copy_21 : decode cX10_copy 21 = .ok (.aload_n 0, 1) := by decide +kernel
theorem dX10_copy_22 : decode cX10_copy 22 = .ok (.iload_n 1, 1) := by decide +kernel
theorem dX10_copy_23 : decode cX10_copy 23 = .ok (.invokevirtual 109, 3) := by decide +kernel
theorem dX10_copy_26 : decode cX10_copy 26 = .ok (.astore 6, 2) := by decide +kernel
theorem dX10_copy_28 : decode cX10_copy 28 = .ok (.aload_n 0, 1) := by decide +kernel
theorem dX10_copy_29 : decode cX10_copy 29 = .ok (.iload_n 3, 1) := by decide +kernel
theorem dX10_copy_30 : decode cX10_copy 30 = .ok (.invokevirtual 109, 3) := by decide +kernel
theorem dX10_copy_33 : decode cX10_copy 33 = .ok (.astore 7, 2) := by decide +kernel
theorem dX10_copy_35 : decode cX10_copy 35 = .ok (.aload 6, 2) := by decide +kernel
theorem dX10_copy_37 : decode cX10_copy 37 = .ok (.ifnull 8, 3) := by decide +kernel
theorem dX10_copy_40 : decode cX10_copy 40 = .ok (.aload 7, 2) := by decide +kernel
theorem dX10_copy_42 : decode cX10_copy 42 = .ok (.ifnonnull 9, 3) := by decide +kernel
theorem dX10_copy_45 : decode cX10_copy 45 = .ok (.aload_n 0, 1) := by decide +kernel
theorem dX10_copy_46 : decode cX10_copy 46 = .ok (.iconst 1, 1) := by decide +kernel
theorem dX10_copy_47 : decode cX10_copy 47 = .ok (.invokevirtual 96, 3) := by decide +kernel
theorem dX10_copy_50 : decode cX10_copy 50 = .ok (.ireturn, 1) := by decide +kernel
theorem dX10_copy_51 : decode cX10_copy 51 = .ok (.aload 6, 2) := by decide +kernel
theorem dX10_copy_53 : decode cX10_copy 53 = .ok (.getfield 124, 3) := by decide +kernel
theorem dX10_copy_56 : decode cX10_copy 56 = .ok (.aload 7, 2) := by decide +kernel
theorem dX10_copy_58 : decode cX10_copy 58 = .ok (.getfield 124, 3) := by decide +kernel
theorem dX10_copy_61 : decode cX10_copy 61 = .ok (.if_icmp .eq 9, 3) := by decide +kernel
theorem dX10_copy_64 : decode cX10_copy 64 = .ok (.aload_n 0, 1) := by decide +kernel
theorem dX10_copy_65 : decode cX10_copy 65 = .ok (.iconst 5, 1) := by decide +kernel
theorem dX10_copy_66 : decode cX10_copy 66 = .ok (.invokevirtual 96, 3) := by decide +kernel
theorem dX10_copy_69 : decode cX10_copy 69 = .ok (.ireturn, 1) := by decide +kernel
theorem dX10_copy_70 : decode cX10_copy 70 = .ok (.aload 6, 2) := by decide +kernel
theorem dX10_copy_72 : decode cX10_copy 72 = .ok (.iload_n 2, 1) := by decide +kernel
theorem dX10_copy_73 : decode cX10_copy 73 = .ok (.iload 5, 2) := by decide +kernel
theorem dX10_copy_75 : decode cX10_copy 75 = .ok (.invokevirtual 127, 3) := by decide +kernel
theorem dX10_copy_78 : decode cX10_copy 78 = .ok (.ifCond .eq 15, 3) := by decide +kernel
theorem dX10_copy_81 : decode cX10_copy 81 = .ok (.aload 7, 2) := by decide +kernel
theorem dX10_copy_83 : decode cX10_copy 83 = .ok (.iload 4, 2) := by decide +kernel
theorem dX10_copy_85 : decode cX10_copy 85 = .ok (.iload 5, 2) := by decide +kernel
theorem dX10_copy_87 : decode cX10_copy 87 = .ok (.invokevirtual 127, 3) := by decide +kernel
theorem dX10_copy_90 : decode cX10_copy 90 = .ok (.ifCond .ne 9, 3) := by decide +kernel
theorem dX10_copy_93 : decode cX10_copy 93 = .ok (.aload_n 0, 1) := by decide +kernel
theorem dX10_copy_94 : decode cX10_copy 94 = .ok (.iconst 2, 1) := by decide +kernel
theorem dX10_copy_95 : decode cX10_copy 95 = .ok (.invokevirtual 96, 3) := by decide +kernel
theorem dX10_copy_98 : decode cX10_copy 98 = .ok (.ireturn, 1) := by decide +kernel
theorem dX10_copy_99 : decode cX10_copy 99 = .ok (.aload 6, 2) := by decide +kernel
theorem dX10_copy_101 : decode cX10_copy 101 = .ok (.getfield 130, 3) := by decide +kernel
theorem dX10_copy_104 : decode cX10_copy 104 = .ok (.iload_n 2, 1) := by decide +kernel
theorem dX10_copy_105 : decode cX10_copy 105 = .ok (.aload 7, 2) := by decide +kernel
theorem dX10_copy_107 : decode cX10_copy 107 = .ok (.getfield 130, 3) := by decide +kernel
theorem dX10_copy_110 : decode cX10_copy 110 = .ok (.iload 4, 2) := by decide +kernel
theorem dX10_copy_112 : decode cX10_copy 112 = .ok (.iload 5, 2) := by decide +kernel
theorem dX10_copy_114 : decode cX10_copy 114 = .ok (.invokestatic 134, 3) := by decide +kernel
theorem dX10_copy_117 : decode cX10_copy 117 = .ok (.aload_n 0, 1) := by decide +kernel
theorem dX10_copy_118 : decode cX10_copy 118 = .ok (.iload 5, 2) := by decide +kernel
theorem dX10_copy_120 : decode cX10_copy 120 = .ok (.invokevirtual 104, 3) := by decide +kernel
theorem dX10_copy_123 : decode cX10_copy 123 = .ok (.ireturn, 1) := by decide +kernel
theorem dX10_drop_0 : decode cX10_drop 0 = .ok (.iload_n 1, 1) := by decide +kernel
theorem dX10_drop_1 : decode cX10_drop 1 = .ok (.bipush 8, 2) := by decide +kernel
theorem dX10_drop_3 : decode cX10_drop 3 = .ok (.invokestatic 91, 3) := by decide +kernel
theorem dX10_drop_6 : decode cX10_drop 6 = .ok (.ifCond .eq 6, 3) := by decide +kernel
theorem dX10_drop_9 : decode cX10_drop 9 = .ok (.ldc 95, 2) := by decide +kernel
theorem dX10_drop_11 : decode cX10_drop 11 = .ok (.ireturn, 1) := by decide +kernel
theorem dX10_drop_12 : decode cX10_drop 12 = .ok (.aload_n 0, 1) := by decide +kernel
theorem dX10_drop_13 : decode cX10_drop 13 = .ok (.iload_n 1, 1) := by decide +kernel
theorem dX10_drop_14 : decode cX10_drop 14 = .ok (.invokevirtual 109, 3) := by decide +kernel
theorem dX10_drop_17 : decode cX10_drop 17 = .ok (.astore_n 2, 1) := by decide +kernel
theorem dX10_drop_18 : decode cX10_drop 18 = .ok (.aload_n 2, 1) := by decide +kernel
theorem dX10_drop_19 : decode cX10_drop 19 = .ok (.ifnonnull 9, 3) := by decide +kernel
theorem dX10_drop_22 : decode cX10_drop 22 = .ok (.aload_n 0, 1) := by decide +kernel
theorem dX10_drop_23 : decode cX10_drop 23 = .ok (.iconst 1, 1) := by decide +kernel
theorem dX10_drop_24 : decode cX10_drop 24 = .ok (.invokevirtual 96, 3) := by decide +kernel
theorem dX10_drop_27 : decode cX10_drop 27 = .ok (.ireturn, 1) := by decide +kernel
theorem dX10_drop_28 : decode cX10_drop 28 = .ok (.aload_n 2, 1) := by decide +kernel
theorem dX10_drop_29 : decode cX10_drop 29 = .ok (.iconst (-1), 1) := by decide +kernel
theorem dX10_drop_30 : decode cX10_drop 30 = .ok (.putfield 124, 3) := by decide +kernel
theorem dX10_drop_33 : decode cX10_drop 33 = .ok (.aload_n 0, 1) := by decide +kernel
theorem dX10_drop_34 : decode cX10_drop 34 = .ok (.aload_n 2, 1) := by decide +kernel
theorem dX10_drop_35 : decode cX10_drop 35 = .ok (.getfield 113, 3) := by decide +kernel
theorem dX10_drop_38 : decode cX10_drop 38 = .ok (.invokevirtual 104, 3) := by decide +kernel
theorem dX10_drop_41 : decode cX10_drop 41 = .ok (.ireturn, 1) := by decide +kernel
theorem dX10_take_0 : decode cX10_take 0 = .ok (.iload_n 1, 1) := by decide +kernel
theorem dX10_take_1 : decode cX10_take 1 = .ok (.bipush 20, 2) := by decide +kernel
theorem dX10_take_3 : decode cX10_take 3 = .ok (.invokestatic 91, 3) := by decide +kernel
theorem dX10_take_6 : decode cX10_take 6 = .ok (.ifCond .ne 12, 3) := by decide +kernel
theorem dX10_take_9 : decode cX10_take 9 = .ok (.iload_n 2, 1) := by decide +kernel
theorem dX10_take_10 : decode cX10_take 10 = .ok (.bipush 8, 2) := by decide +kernel
theorem dX10_take_12 : decode cX10_take 12 = .ok (.invokestatic 91, 3) := by decide +kernel
theorem dX10_take_15 : decode cX10_take 15 = .ok (.ifCond .eq 6, 3) := by decide +kernel
theorem dX10_take_18 : decode cX10_take 18 = .ok (.ldc 95, 2) := by decide +kernel
theorem dX10_take_20 : decode cX10_take 20 = .ok (.ireturn, 1) := by decide +kernel
theorem dX10_take_21 : decode cX10_take 21 = .ok (.aload_n 0, 1) := by decide +kernel
theorem dX10_take_22 : decode cX10_take 22 = .ok (.iload_n 2, 1) := by decide +kernel
theorem dX10_take_23 : decode cX10_take 23 = .ok (.invokevirtual 109, 3) := by decide +kernel
theorem dX10_take_26 : decode cX10_take 26 = .ok (.astore 4, 2) := by decide +kernel
theorem dX10_take_28 : decode cX10_take 28 = .ok (.aload 4, 2) := by decide +kernel
theorem dX10_take_30 : decode cX10_take 30 = .ok (.ifnonnull 9, 3) := by decide +kernel
theorem dX10_take_33 : decode cX10_take 33 = .ok (.aload_n 0, 1) := by decide +kernel
theorem dX10_take_34 : decode cX10_take 34 = .ok (.iconst 1, 1) := by decide +kernel
theorem dX10_take_35 : decode cX10_take 35 = .ok (.invokevirtual 96, 3) := by decide +kernel
theorem dX10_take_38 : decode cX10_take 38 = .ok (.ireturn, 1) := by decide +kernel
theorem dX10_take_39 : decode cX10_take 39 = .ok (.aload 4, 2) := by decide +kernel
theorem dX10_take_41 : decode cX10_take 41 = .ok (.iload_n 3, 1) := by decide +kernel
theorem dX10_take_42 : decode cX10_take 42 = .ok (.iconst 4, 1) := by decide +kernel
theorem dX10_take_43 : decode cX10_take 43 = .ok (.invokevirtual 127, 3) := by decide +kernel
theorem dX10_take_46 : decode cX10_take 46 = .ok (.ifCond .ne 9, 3) := by decide +kernel
theorem dX10_take_49 : decode cX10_take 49 = .ok (.aload_n 0, 1) := by decide +kernel
theorem dX10_take_50 : decode cX10_take 50 = .ok (.iconst 2, 1) := by decide +kernel
theorem dX10_take_51 : decode cX10_take 51 = .ok (.invokevirtual 96, 3) := by decide +kernel
theorem dX10_take_54 : decode cX10_take 54 = .ok (.ireturn, 1) := by decide +kernel
theorem dX10_take_55 : decode cX10_take 55 = .ok (.aload_n 0, 1) := by decide +kernel
theorem dX10_take_56 : decode cX10_take 56 = .ok (.getfield 27, 3) := by decide +kernel
theorem dX10_take_59 : decode cX10_take 59 = .ok (.aload 4, 2) := by decide +kernel
theorem dX10_take_61 : decode cX10_take 61 = .ok (.iload_n 3, 1) := by decide +kernel
theorem dX10_take_62 : decode cX10_take 62 = .ok (.invokevirtual 120, 3) := by decide +kernel
theorem dX10_take_65 : decode cX10_take 65 = .ok (.aload 4, 2) := by decide +kernel
theorem dX10_take_67 : decode cX10_take 67 = .ok (.iload_n 3, 1) := by decide +kernel
theorem dX10_take_68 : decode cX10_take 68 = .ok (.iconst 1, 1) := by decide +kernel
theorem dX10_take_69 : decode cX10_take 69 = .ok (.iadd, 1) := by decide +kernel
theorem dX10_take_70 : decode cX10_take 70 = .ok (.invokevirtual 120, 3) := by decide +kernel
theorem dX10_take_73 : decode cX10_take 73 = .ok (.aload 4, 2) := by decide +kernel
theorem dX10_take_75 : decode cX10_take 75 = .ok (.iload_n 3, 1) := by decide +kernel
theorem dX10_take_76 : decode cX10_take 76 = .ok (.iconst 2, 1) := by decide +kernel
theorem dX10_take_77 : decode cX10_take 77 = .ok (.iadd, 1) := by decide +kernel
theorem dX10_take_78 : decode cX10_take 78 = .ok (.invokevirtual 120, 3) := by decide +kernel
theorem dX10_take_81 : decode cX10_take 81 = .ok (.aload 4, 2) := by decide +kernel
theorem dX10_take_83 : decode cX10_take 83 = .ok (.iload_n 3, 1) := by decide +kernel
theorem dX10_take_84 : decode cX10_take 84 = .ok (.iconst 3, 1) := by decide +kernel
theorem dX10_take_85 : decode cX10_take 85 = .ok (.iadd, 1) := by decide +kernel
theorem dX10_take_86 : decode cX10_take 86 = .ok (.invokevirtual 120, 3) := by decide +kernel
theorem dX10_take_89 : decode cX10_take 89 = .ok (.invokevirtual 140, 3) := by decide +kernel
theorem dX10_take_92 : decode cX10_take 92 = .ok (.aload_n 0, 1) := by decide +kernel
theorem dX10_take_93 : decode cX10_take 93 = .ok (.getfield 27, 3) := by decide +kernel
theorem dX10_take_96 : decode cX10_take 96 = .ok (.invokevirtual 144, 3) := by decide +kernel
theorem dX10_take_99 : decode cX10_take 99 = .ok (.ifCond .ne 16, 3) := by decide +kernel
theorem dX10_take_102 : decode cX10_take 102 = .ok (.aload_n 0, 1) := by decide +kernel
theorem dX10_take_103 : decode cX10_take 103 = .ok (.getfield 27, 3) := by decide +kernel
theorem dX10_take_106 : decode cX10_take 106 = .ok (.invokevirtual 148, 3) := by decide +kernel
theorem dX10_take_109 : decode cX10_take 109 = .ok (.ifCond .ne 6, 3) := by decide +kernel
theorem dX10_take_112 : decode cX10_take 112 = .ok (.ldc 95, 2) := by decide +kernel
theorem dX10_take_114 : decode cX10_take 114 = .ok (.ireturn, 1) := by decide +kernel
theorem dX10_take_115 : decode cX10_take 115 = .ok (.aload_n 0, 1) := by decide +kernel
theorem dX10_take_116 : decode cX10_take 116 = .ok (.getfield 27, 3) := by decide +kernel
theorem dX10_take_119 : decode cX10_take 119 = .ok (.invokevirtual 151, 3) := by decide +kernel
theorem dX10_take_122 : decode cX10_take 122 = .ok (.ifCond .eq 6, 3) := by decide +kernel
theorem dX10_take_125 : decode cX10_take 125 = .ok (.ldc 154, 2) := by decide +kernel
theorem dX10_take_127 : decode cX10_take 127 = .ok (.ireturn, 1) := by decide +kernel
theorem dX10_take_128 : decode cX10_take 128 = .ok (.aload_n 0, 1) := by decide +kernel
theorem dX10_take_129 : decode cX10_take 129 = .ok (.aload_n 0, 1) := by decide +kernel
theorem dX10_take_130 : decode cX10_take 130 = .ok (.iload_n 1, 1) := by decide +kernel
theorem dX10_take_131 : decode cX10_take 131 = .ok (.aload_n 0, 1) := by decide +kernel
theorem dX10_take_132 : decode cX10_take 132 = .ok (.getfield 27, 3) := by decide +kernel
theorem dX10_take_135 : decode cX10_take 135 = .ok (.invokevirtual 155, 3) := by decide +kernel
theorem dX10_take_138 : decode cX10_take 138 = .ok (.invokevirtual 104, 3) := by decide +kernel
theorem dX10_take_141 : decode cX10_take 141 = .ok (.ireturn, 1) := by decide +kernel
theorem dX10_clear_0 : decode cX10_clear 0 = .ok (.iload_n 1, 1) := by decide +kernel
theorem dX10_clear_1 : decode cX10_clear 1 = .ok (.bipush 20, 2) := by decide +kernel
theorem dX10_clear_3 : decode cX10_clear 3 = .ok (.invokestatic 91, 3) := by decide +kernel
theorem dX10_clear_6 : decode cX10_clear 6 = .ok (.ifCond .eq 6, 3) := by decide +kernel
theorem dX10_clear_9 : decode cX10_clear 9 = .ok (.ldc 95, 2) := by decide +kernel
theorem dX10_clear_11 : decode cX10_clear 11 = .ok (.ireturn, 1) := by decide +kernel
theorem dX10_clear_12 : decode cX10_clear 12 = .ok (.aload_n 0, 1) := by decide +kernel
theorem dX10_clear_13 : decode cX10_clear 13 = .ok (.getfield 22, 3) := by decide +kernel
theorem dX10_clear_16 : decode cX10_clear 16 = .ok (.iload_n 1, 1) := by decide +kernel
theorem dX10_clear_17 : decode cX10_clear 17 = .ok (.iaload, 1) := by decide +kernel
theorem dX10_clear_18 : decode cX10_clear 18 = .ok (.iconst (-1), 1) := by decide +kernel
theorem dX10_clear_19 : decode cX10_clear 19 = .ok (.if_icmp .ne 7, 3) := by decide +kernel
theorem dX10_clear_22 : decode cX10_clear 22 = .ok (.iconst 0, 1) := by decide +kernel
theorem dX10_clear_23 : decode cX10_clear 23 = .ok (.goto 4, 3) := by decide +kernel
theorem dX10_clear_26 : decode cX10_clear 26 = .ok (.iconst 1, 1) := by decide +kernel
theorem dX10_clear_27 : decode cX10_clear 27 = .ok (.istore_n 2, 1) := by decide +kernel
theorem dX10_clear_28 : decode cX10_clear 28 = .ok (.aload_n 0, 1) := by decide +kernel
theorem dX10_clear_29 : decode cX10_clear 29 = .ok (.getfield 22, 3) := by decide +kernel
theorem dX10_clear_32 : decode cX10_clear 32 = .ok (.iload_n 1, 1) := by decide +kernel
theorem dX10_clear_33 : decode cX10_clear 33 = .ok (.iconst (-1), 1) := by decide +kernel
theorem dX10_clear_34 : decode cX10_clear 34 = .ok (.iastore, 1) := by decide +kernel
theorem dX10_clear_35 : decode cX10_clear 35 = .ok (.iload_n 2, 1) := by decide +kernel
theorem dX10_clear_36 : decode cX10_clear 36 = .ok (.ireturn, 1) := by decide +kernel
theorem dX10_number_0 : decode cX10_number 0 = .ok (.iload_n 1, 1) := by decide +kernel
theorem dX10_number_1 : decode cX10_number 1 = .ok (.bipush 20, 2) := by decide +kernel
theorem dX10_number_3 : decode cX10_number 3 = .ok (.invokestatic 91, 3) := by decide +kernel
theorem dX10_number_6 : decode cX10_number 6 = .ok (.ifCond .ne 11, 3) := by decide +kernel
theorem dX10_number_9 : decode cX10_number 9 = .ok (.iload_n 2, 1) := by decide +kernel
theorem dX10_number_10 : decode cX10_number 10 = .ok (.iconst 4, 1) := by decide +kernel
theorem dX10_number_11 : decode cX10_number 11 = .ok (.invokestatic 91, 3) := by decide +kernel
theorem dX10_number_14 : decode cX10_number 14 = .ok (.ifCond .eq 7, 3) := by decide +kernel
theorem dX10_number_17 : decode cX10_number 17 = .ok (.ldc2_w 107, 3) := by decide +kernel
theorem dX10_number_20 : decode cX10_number 20 = .ok (.lreturn, 1) := by decide +kernel
theorem dX10_number_21 : decode cX10_number 21 = .ok (.aload_n 0, 1) := by decide +kernel
theorem dX10_number_22 : decode cX10_number 22 = .ok (.iload_n 1, 1) := by decide +kernel
theorem dX10_number_23 : decode cX10_number 23 = .ok (.invokevirtual 159, 3) := by decide +kernel
theorem dX10_number_26 : decode cX10_number 26 = .ok (.astore_n 3, 1) := by decide +kernel
theorem dX10_number_27 : decode cX10_number 27 = .ok (.aload_n 3, 1) := by decide +kernel
theorem dX10_number_28 : decode cX10_number 28 = .ok (.ifnonnull 10, 3) := by decide +kernel
theorem dX10_number_31 : decode cX10_number 31 = .ok (.aload_n 0, 1) := by decide +kernel
theorem dX10_number_32 : decode cX10_number 32 = .ok (.iconst 1, 1) := by decide +kernel
theorem dX10_number_33 : decode cX10_number 33 = .ok (.invokevirtual 96, 3) := by decide +kernel
theorem dX10_number_36 : decode cX10_number 36 = .ok (.i2l, 1) := by decide +kernel
theorem dX10_number_37 : decode cX10_number 37 = .ok (.lreturn, 1) := by decide +kernel
theorem dX10_number_38 : decode cX10_number 38 = .ok (.aload_n 0, 1) := by decide +kernel
theorem dX10_number_39 : decode cX10_number 39 = .ok (.iconst 0, 1) := by decide +kernel
theorem dX10_number_40 : decode cX10_number 40 = .ok (.putfield 87, 3) := by decide +kernel
theorem dX10_number_43 : decode cX10_number 43 = .ok (.aload_n 3, 1) := by decide +kernel
theorem dX10_number_44 : decode cX10_number 44 = .ok (.iload_n 2, 1) := by decide +kernel
theorem dX10_number_45 : decode cX10_number 45 = .ok (.invokevirtual 163, 3) := by decide +kernel
theorem dX10_number_48 : decode cX10_number 48 = .ok (.lreturn, 1) := by decide +kernel
theorem dX10_norm_0 : decode cX10_norm 0 = .ok (.iload_n 1, 1) := by decide +kernel
theorem dX10_norm_1 : decode cX10_norm 1 = .ok (.bipush 20, 2) := by decide +kernel
theorem dX10_norm_3 : decode cX10_norm 3 = .ok (.invokestatic 91, 3) := by decide +kernel
theorem dX10_norm_6 : decode cX10_norm 6 = .ok (.ifCond .eq 6, 3) := by decide +kernel
theorem dX10_norm_9 : decode cX10_norm 9 = .ok (.ldc 95, 2) := by decide +kernel
theorem dX10_norm_11 : decode cX10_norm 11 = .ok (.ireturn, 1) := by decide +kernel
theorem dX10_norm_12 : decode cX10_norm 12 = .ok (.aload_n 0, 1) := by decide +kernel
theorem dX10_norm_13 : decode cX10_norm 13 = .ok (.iload_n 1, 1) := by decide +kernel
theorem dX10_norm_14 : decode cX10_norm 14 = .ok (.invokevirtual 159, 3) := by decide +kernel
theorem dX10_norm_17 : decode cX10_norm 17 = .ok (.astore_n 2, 1) := by decide +kernel
theorem dX10_norm_18 : decode cX10_norm 18 = .ok (.aload_n 2, 1) := by decide +kernel
theorem dX10_norm_19 : decode cX10_norm 19 = .ok (.ifnonnull 9, 3) := by decide +kernel
theorem dX10_norm_22 : decode cX10_norm 22 = .ok (.aload_n 0, 1) := by decide +kernel
theorem dX10_norm_23 : decode cX10_norm 23 = .ok (.iconst 1, 1) := by decide +kernel
theorem dX10_norm_24 : decode cX10_norm 24 = .ok (.invokevirtual 96, 3) := by decide +kernel
theorem dX10_norm_27 : decode cX10_norm 27 = .ok (.ireturn, 1) := by decide +kernel
theorem dX10_norm_28 : decode cX10_norm 28 = .ok (.aload_n 0, 1) := by decide +kernel
theorem dX10_norm_29 : decode cX10_norm 29 = .ok (.aload_n 2, 1) := by decide +kernel
theorem dX10_norm_30 : decode cX10_norm 30 = .ok (.invokevirtual 166, 3) := by decide +kernel
theorem dX10_norm_33 : decode cX10_norm 33 = .ok (.l2i, 1) := by decide +kernel
theorem dX10_norm_34 : decode cX10_norm 34 = .ok (.invokevirtual 104, 3) := by decide +kernel
theorem dX10_norm_37 : decode cX10_norm 37 = .ok (.ireturn, 1) := by decide +kernel
theorem dX10_kind_0 : decode cX10_kind 0 = .ok (.iload_n 1, 1) := by decide +kernel
theorem dX10_kind_1 : decode cX10_kind 1 = .ok (.bipush 20, 2) := by decide +kernel
theorem dX10_kind_3 : decode cX10_kind 3 = .ok (.invokestatic 91, 3) := by decide +kernel
theorem dX10_kind_6 : decode cX10_kind 6 = .ok (.ifCond .eq 6, 3) := by decide +kernel
theorem dX10_kind_9 : decode cX10_kind 9 = .ok (.ldc 95, 2) := by decide +kernel
theorem dX10_kind_11 : decode cX10_kind 11 = .ok (.ireturn, 1) := by decide +kernel
theorem dX10_kind_12 : decode cX10_kind 12 = .ok (.aload_n 0, 1) := by decide +kernel
theorem dX10_kind_13 : decode cX10_kind 13 = .ok (.iload_n 1, 1) := by decide +kernel
theorem dX10_kind_14 : decode cX10_kind 14 = .ok (.invokevirtual 159, 3) := by decide +kernel
theorem dX10_kind_17 : decode cX10_kind 17 = .ok (.ifnonnull 9, 3) := by decide +kernel
theorem dX10_kind_20 : decode cX10_kind 20 = .ok (.aload_n 0, 1) := by decide +kernel
theorem dX10_kind_21 : decode cX10_kind 21 = .ok (.iconst 1, 1) := by decide +kernel
theorem dX10_kind_22 : decode cX10_kind 22 = .ok (.invokevirtual 96, 3) := by decide +kernel
theorem dX10_kind_25 : decode cX10_kind 25 = .ok (.ireturn, 1) := by decide +kernel
theorem dX10_kind_26 : decode cX10_kind 26 = .ok (.aload_n 0, 1) := by decide +kernel
theorem dX10_kind_27 : decode cX10_kind 27 = .ok (.aload_n 0, 1) := by decide +kernel
theorem dX10_kind_28 : decode cX10_kind 28 = .ok (.getfield 22, 3) := by decide +kernel
theorem dX10_kind_31 : decode cX10_kind 31 = .ok (.iload_n 1, 1) := by decide +kernel
theorem dX10_kind_32 : decode cX10_kind 32 = .ok (.iaload, 1) := by decide +kernel
theorem dX10_kind_33 : decode cX10_kind 33 = .ok (.invokevirtual 104, 3) := by decide +kernel
theorem dX10_kind_36 : decode cX10_kind 36 = .ok (.ireturn, 1) := by decide +kernel
theorem dX10_is_0 : decode cX10_is 0 = .ok (.iload_n 1, 1) := by decide +kernel
theorem dX10_is_1 : decode cX10_is 1 = .ok (.bipush 20, 2) := by decide +kernel
theorem dX10_is_3 : decode cX10_is 3 = .ok (.invokestatic 91, 3) := by decide +kernel
theorem dX10_is_6 : decode cX10_is 6 = .ok (.ifCond .ne 11, 3) := by decide +kernel
theorem dX10_is_9 : decode cX10_is 9 = .ok (.iload_n 2, 1) := by decide +kernel
theorem dX10_is_10 : decode cX10_is 10 = .ok (.iconst 5, 1) := by decide +kernel
theorem dX10_is_11 : decode cX10_is 11 = .ok (.invokestatic 91, 3) := by decide +kernel
theorem dX10_is_14 : decode cX10_is 14 = .ok (.ifCond .eq 6, 3) := by decide +kernel
theorem dX10_is_17 : decode cX10_is 17 = .ok (.ldc 95, 2) := by decide +kernel
theorem dX10_is_19 : decode cX10_is 19 = .ok (.ireturn, 1) := by decide +kernel
theorem dX10_is_20 : decode cX10_is 20 = .ok (.aload_n 0, 1) := by decide +kernel
theorem dX10_is_21 : decode cX10_is 21 = .ok (.iload_n 1, 1) := by decide +kernel
theorem dX10_is_22 : decode cX10_is 22 = .ok (.invokevirtual 159, 3) := by decide +kernel
theorem dX10_is_25 : decode cX10_is 25 = .ok (.ifnonnull 9, 3) := by decide +kernel
theorem dX10_is_28 : decode cX10_is 28 = .ok (.aload_n 0, 1) := by decide +kernel
theorem dX10_is_29 : decode cX10_is 29 = .ok (.iconst 1, 1) := by decide +kernel
theorem dX10_is_30 : decode cX10_is 30 = .ok (.invokevirtual 96, 3) := by decide +kernel
theorem dX10_is_33 : decode cX10_is 33 = .ok (.ireturn, 1) := by decide +kernel
theorem dX10_is_34 : decode cX10_is 34 = .ok (.aload_n 0, 1) := by decide +kernel
theorem dX10_is_35 : decode cX10_is 35 = .ok (.aload_n 0, 1) := by decide +kernel
theorem dX10_is_36 : decode cX10_is 36 = .ok (.getfield 22, 3) := by decide +kernel
theorem dX10_is_39 : decode cX10_is 39 = .ok (.iload_n 1, 1) := by decide +kernel
theorem dX10_is_40 : decode cX10_is 40 = .ok (.iaload, 1) := by decide +kernel
theorem dX10_is_41 : decode cX10_is 41 = .ok (.iload_n 2, 1) := by decide +kernel
theorem dX10_is_42 : decode cX10_is 42 = .ok (.invokestatic 170, 3) := by decide +kernel
theorem dX10_is_45 : decode cX10_is 45 = .ok (.ifCond .eq 7, 3) := by decide +kernel
theorem dX10_is_48 : decode cX10_is 48 = .ok (.iconst 1, 1) := by decide +kernel
theorem dX10_is_49 : decode cX10_is 49 = .ok (.goto 4, 3) := by decide +kernel
theorem dX10_is_52 : decode cX10_is 52 = .ok (.iconst 0, 1) := by decide +kernel
theorem dX10_is_53 : decode cX10_is 53 = .ok (.invokevirtual 104, 3) := by decide +kernel
theorem dX10_is_56 : decode cX10_is 56 = .ok (.ireturn, 1) := by decide +kernel
theorem dX10_as_0 : decode cX10_as 0 = .ok (.iload_n 1, 1) := by decide +kernel
theorem dX10_as_1 : decode cX10_as 1 = .ok (.bipush 20, 2) := by decide +kernel
theorem dX10_as_3 : decode cX10_as 3 = .ok (.invokestatic 91, 3) := by decide +kernel
theorem dX10_as_6 : decode cX10_as 6 = .ok (.ifCond .ne 11, 3) := by decide +kernel
theorem dX10_as_9 : decode cX10_as 9 = .ok (.iload_n 2, 1) := by decide +kernel
theorem dX10_as_10 : decode cX10_as 10 = .ok (.iconst 5, 1) := by decide +kernel
theorem dX10_as_11 : decode cX10_as 11 = .ok (.invokestatic 91, 3) := by decide +kernel
theorem dX10_as_14 : decode cX10_as 14 = .ok (.ifCond .eq 6, 3) := by decide +kernel
theorem dX10_as_17 : decode cX10_as 17 = .ok (.ldc 95, 2) := by decide +kernel
theorem dX10_as_19 : decode cX10_as 19 = .ok (.ireturn, 1) := by decide +kernel
theorem dX10_as_20 : decode cX10_as 20 = .ok (.aload_n 0, 1) := by decide +kernel
theorem dX10_as_21 : decode cX10_as 21 = .ok (.iload_n 1, 1) := by decide +kernel
theorem dX10_as_22 : decode cX10_as 22 = .ok (.invokevirtual 159, 3) := by decide +kernel
theorem dX10_as_25 : decode cX10_as 25 = .ok (.astore_n 3, 1) := by decide +kernel
theorem dX10_as_26 : decode cX10_as 26 = .ok (.aload_n 3, 1) := by decide +kernel
theorem dX10_as_27 : decode cX10_as 27 = .ok (.ifnonnull 9, 3) := by decide +kernel
theorem dX10_as_30 : decode cX10_as 30 = .ok (.aload_n 0, 1) := by decide +kernel
theorem dX10_as_31 : decode cX10_as 31 = .ok (.iconst 1, 1) := by decide +kernel
theorem dX10_as_32 : decode cX10_as 32 = .ok (.invokevirtual 96, 3) := by decide +kernel
theorem dX10_as_35 : decode cX10_as 35 = .ok (.ireturn, 1) := by decide +kernel
theorem dX10_as_36 : decode cX10_as 36 = .ok (.aload_n 0, 1) := by decide +kernel
theorem dX10_as_37 : decode cX10_as 37 = .ok (.getfield 22, 3) := by decide +kernel
theorem dX10_as_40 : decode cX10_as 40 = .ok (.iload_n 1, 1) := by decide +kernel
theorem dX10_as_41 : decode cX10_as 41 = .ok (.iaload, 1) := by decide +kernel
theorem dX10_as_42 : decode cX10_as 42 = .ok (.iload_n 2, 1) := by decide +kernel
theorem dX10_as_43 : decode cX10_as 43 = .ok (.invokestatic 170, 3) := by decide +kernel
theorem dX10_as_46 : decode cX10_as 46 = .ok (.ifCond .ne 9, 3) := by decide +kernel
theorem dX10_as_49 : decode cX10_as 49 = .ok (.aload_n 0, 1) := by decide +kernel
theorem dX10_as_50 : decode cX10_as 50 = .ok (.iconst 3, 1) := by decide +kernel
theorem dX10_as_51 : decode cX10_as 51 = .ok (.invokevirtual 96, 3) := by decide +kernel
theorem dX10_as_54 : decode cX10_as 54 = .ok (.ireturn, 1) := by decide +kernel
theorem dX10_as_55 : decode cX10_as 55 = .ok (.aload_n 0, 1) := by decide +kernel
theorem dX10_as_56 : decode cX10_as 56 = .ok (.aload_n 3, 1) := by decide +kernel
theorem dX10_as_57 : decode cX10_as 57 = .ok (.invokevirtual 166, 3) := by decide +kernel
theorem dX10_as_60 : decode cX10_as 60 = .ok (.l2i, 1) := by decide +kernel
theorem dX10_as_61 : decode cX10_as 61 = .ok (.invokevirtual 104, 3) := by decide +kernel
theorem dX10_as_64 : decode cX10_as 64 = .ok (.ireturn, 1) := by decide +kernel
theorem dX10_ask_0 : decode cX10_ask 0 = .ok (.iload_n 1, 1) := by decide +kernel
theorem dX10_ask_1 : decode cX10_ask 1 = .ok (.bipush 20, 2) := by decide +kernel
theorem dX10_ask_3 : decode cX10_ask 3 = .ok (.invokestatic 91, 3) := by decide +kernel
theorem dX10_ask_6 : decode cX10_ask 6 = .ok (.ifCond .ne 11, 3) := by decide +kernel
theorem dX10_ask_9 : decode cX10_ask 9 = .ok (.iload_n 2, 1) := by decide +kernel
theorem dX10_ask_10 : decode cX10_ask 10 = .ok (.iconst 3, 1) := by decide +kernel
theorem dX10_ask_11 : decode cX10_ask 11 = .ok (.invokestatic 91, 3) := by decide +kernel
theorem dX10_ask_14 : decode cX10_ask 14 = .ok (.ifCond .eq 6, 3) := by decide +kernel
theorem dX10_ask_17 : decode cX10_ask 17 = .ok (.ldc 95, 2) := by decide +kernel
theorem dX10_ask_19 : decode cX10_ask 19 = .ok (.ireturn, 1) := by decide +kernel
theorem dX10_ask_20 : decode cX10_ask 20 = .ok (.aload_n 0, 1) := by decide +kernel
theorem dX10_ask_21 : decode cX10_ask 21 = .ok (.getfield 83, 3) := by decide +kernel
theorem dX10_ask_24 : decode cX10_ask 24 = .ok (.invokevirtual 173, 3) := by decide +kernel
theorem dX10_ask_27 : decode cX10_ask 27 = .ok (.aload_n 0, 1) := by decide +kernel
theorem dX10_ask_28 : decode cX10_ask 28 = .ok (.iload_n 1, 1) := by decide +kernel
theorem dX10_ask_29 : decode cX10_ask 29 = .ok (.invokevirtual 159, 3) := by decide +kernel
theorem dX10_ask_32 : decode cX10_ask 32 = .ok (.astore_n 3, 1) := by decide +kernel
theorem dX10_ask_33 : decode cX10_ask 33 = .ok (.aload_n 3, 1) := by decide +kernel
theorem dX10_ask_34 : decode cX10_ask 34 = .ok (.ifnonnull 9, 3) := by decide +kernel
theorem dX10_ask_37 : decode cX10_ask 37 = .ok (.aload_n 0, 1) := by decide +kernel
theorem dX10_ask_38 : decode cX10_ask 38 = .ok (.iconst 1, 1) := by decide +kernel
theorem dX10_ask_39 : decode cX10_ask 39 = .ok (.invokevirtual 96, 3) := by decide +kernel
theorem dX10_ask_42 : decode cX10_ask 42 = .ok (.ireturn, 1) := by decide +kernel
theorem dX10_ask_43 : decode cX10_ask 43 = .ok (.iload_n 2, 1) := by decide +kernel
theorem dX10_ask_44 : decode cX10_ask 44 = .ok (.ifCond .ne 25, 3) := by decide +kernel
theorem dX10_ask_47 : decode cX10_ask 47 = .ok (.aload_n 0, 1) := by decide +kernel
theorem dX10_ask_48 : decode cX10_ask 48 = .ok (.aload_n 0, 1) := by decide +kernel
theorem dX10_ask_49 : decode cX10_ask 49 = .ok (.getfield 83, 3) := by decide +kernel
theorem dX10_ask_52 : decode cX10_ask 52 = .ok (.aload_n 3, 1) := by decide +kernel
theorem dX10_ask_53 : decode cX10_ask 53 = .ok (.invokevirtual 166, 3) := by decide +kernel
theorem dX10_ask_56 : decode cX10_ask 56 = .ok (.aload_n 0, 1) := by decide +kernel
theorem dX10_ask_57 : decode cX10_ask 57 = .ok (.getfield 22, 3) := by decide +kernel
theorem dX10_ask_60 : decode cX10_ask 60 = .ok (.iload_n 1, 1) := by decide +kernel
theorem dX10_ask_61 : decode cX10_ask 61 = .ok (.iaload, 1) := by decide +kernel
theorem dX10_ask_62 : decode cX10_ask 62 = .ok (.invokevirtual 176, 3) := by decide +kernel
theorem dX10_ask_65 : decode cX10_ask 65 = .ok (.invokevirtual 104, 3) := by decide +kernel
theorem dX10_ask_68 : decode cX10_ask 68 = .ok (.ireturn, 1) := by decide +kernel
theorem dX10_ask_69 : decode cX10_ask 69 = .ok (.iload_n 2, 1) := by decide +kernel
theorem dX10_ask_70 : decode cX10_ask 70 = .ok (.iconst 1, 1) := by decide +kernel
theorem dX10_ask_71 : decode cX10_ask 71 = .ok (.if_icmp .ne 25, 3) := by decide +kernel
theorem dX10_ask_74 : decode cX10_ask 74 = .ok (.aload_n 0, 1) := by decide +kernel
theorem dX10_ask_75 : decode cX10_ask 75 = .ok (.aload_n 0, 1) := by decide +kernel
theorem dX10_ask_76 : decode cX10_ask 76 = .ok (.getfield 83, 3) := by decide +kernel
theorem dX10_ask_79 : decode cX10_ask 79 = .ok (.aload_n 3, 1) := by decide +kernel
theorem dX10_ask_80 : decode cX10_ask 80 = .ok (.invokevirtual 166, 3) := by decide +kernel
theorem dX10_ask_83 : decode cX10_ask 83 = .ok (.aload_n 0, 1) := by decide +kernel
theorem dX10_ask_84 : decode cX10_ask 84 = .ok (.getfield 22, 3) := by decide +kernel
theorem dX10_ask_87 : decode cX10_ask 87 = .ok (.iload_n 1, 1) := by decide +kernel
theorem dX10_ask_88 : decode cX10_ask 88 = .ok (.iaload, 1) := by decide +kernel
theorem dX10_ask_89 : decode cX10_ask 89 = .ok (.invokevirtual 180, 3) := by decide +kernel
theorem dX10_ask_92 : decode cX10_ask 92 = .ok (.invokevirtual 104, 3) := by decide +kernel
theorem dX10_ask_95 : decode cX10_ask 95 = .ok (.ireturn, 1) := by decide +kernel
theorem dX10_ask_96 : decode cX10_ask 96 = .ok (.aload_n 0, 1) := by decide +kernel
theorem dX10_ask_97 : decode cX10_ask 97 = .ok (.aload_n 0, 1) := by decide +kernel
theorem dX10_ask_98 : decode cX10_ask 98 = .ok (.getfield 83, 3) := by decide +kernel
theorem dX10_ask_101 : decode cX10_ask 101 = .ok (.aload_n 3, 1) := by decide +kernel
theorem dX10_ask_102 : decode cX10_ask 102 = .ok (.aload_n 0, 1) := by decide +kernel
theorem dX10_ask_103 : decode cX10_ask 103 = .ok (.getfield 22, 3) := by decide +kernel
theorem dX10_ask_106 : decode cX10_ask 106 = .ok (.iload_n 1, 1) := by decide +kernel
theorem dX10_ask_107 : decode cX10_ask 107 = .ok (.iaload, 1) := by decide +kernel
theorem dX10_ask_108 : decode cX10_ask 108 = .ok (.invokevirtual 183, 3) := by decide +kernel
theorem dX10_ask_111 : decode cX10_ask 111 = .ok (.invokevirtual 104, 3) := by decide +kernel
theorem dX10_ask_114 : decode cX10_ask 114 = .ok (.ireturn, 1) := by decide +kernel
theorem dX10_trace_0 : decode cX10_trace 0 = .ok (.aload_n 0, 1) := by decide +kernel
theorem dX10_trace_1 : decode cX10_trace 1 = .ok (.getfield 83, 3) := by decide +kernel
theorem dX10_trace_4 : decode cX10_trace 4 = .ok (.iload_n 1, 1) := by decide +kernel
theorem dX10_trace_5 : decode cX10_trace 5 = .ok (.invokevirtual 187, 3) := by decide +kernel
theorem dX10_trace_8 : decode cX10_trace 8 = .ok (.ireturn, 1) := by decide +kernel
theorem dX10_times_0 : decode cX10_times 0 = .ok (.iload_n 1, 1) := by decide +kernel
theorem dX10_times_1 : decode cX10_times 1 = .ok (.bipush 20, 2) := by decide +kernel
theorem dX10_times_3 : decode cX10_times 3 = .ok (.invokestatic 91, 3) := by decide +kernel
theorem dX10_times_6 : decode cX10_times 6 = .ok (.ifCond .ne 21, 3) := by decide +kernel
theorem dX10_times_9 : decode cX10_times 9 = .ok (.iload_n 2, 1) := by decide +kernel
theorem dX10_times_10 : decode cX10_times 10 = .ok (.bipush 20, 2) := by decide +kernel
theorem dX10_times_12 : decode cX10_times 12 = .ok (.invokestatic 91, 3) := by decide +kernel
theorem dX10_times_15 : decode cX10_times 15 = .ok (.ifCond .ne 12, 3) := by decide +kernel
theorem dX10_times_18 : decode cX10_times 18 = .ok (.iload_n 3, 1) := by decide +kernel
theorem dX10_times_19 : decode cX10_times 19 = .ok (.bipush 20, 2) := by decide +kernel
theorem dX10_times_21 : decode cX10_times 21 = .ok (.invokestatic 91, 3) := by decide +kernel
theorem dX10_times_24 : decode cX10_times 24 = .ok (.ifCond .eq 6, 3) := by decide +kernel
theorem dX10_times_27 : decode cX10_times 27 = .ok (.ldc 95, 2) := by decide +kernel
theorem dX10_times_29 : decode cX10_times 29 = .ok (.ireturn, 1) := by decide +kernel
theorem dX10_times_30 : decode cX10_times 30 = .ok (.aload_n 0, 1) := by decide +kernel
theorem dX10_times_31 : decode cX10_times 31 = .ok (.iload_n 2, 1) := by decide +kernel
theorem dX10_times_32 : decode cX10_times 32 = .ok (.invokevirtual 159, 3) := by decide +kernel
theorem dX10_times_35 : decode cX10_times 35 = .ok (.astore 4, 2) := by decide +kernel
theorem dX10_times_37 : decode cX10_times 37 = .ok (.aload_n 0, 1) := by decide +kernel
theorem dX10_times_38 : decode cX10_times 38 = .ok (.iload_n 3, 1) := by decide +kernel
theorem dX10_times_39 : decode cX10_times 39 = .ok (.invokevirtual 159, 3) := by decide +kernel
theorem dX10_times_42 : decode cX10_times 42 = .ok (.astore 5, 2) := by decide +kernel
theorem dX10_times_44 : decode cX10_times 44 = .ok (.aload 4, 2) := by decide +kernel
theorem dX10_times_46 : decode cX10_times 46 = .ok (.ifnull 8, 3) := by decide +kernel
theorem dX10_times_49 : decode cX10_times 49 = .ok (.aload 5, 2) := by decide +kernel
theorem dX10_times_51 : decode cX10_times 51 = .ok (.ifnonnull 9, 3) := by decide +kernel
theorem dX10_times_54 : decode cX10_times 54 = .ok (.aload_n 0, 1) := by decide +kernel
theorem dX10_times_55 : decode cX10_times 55 = .ok (.iconst 1, 1) := by decide +kernel
theorem dX10_times_56 : decode cX10_times 56 = .ok (.invokevirtual 96, 3) := by decide +kernel
theorem dX10_times_59 : decode cX10_times 59 = .ok (.ireturn, 1) := by decide +kernel
theorem dX10_times_60 : decode cX10_times 60 = .ok (.aload_n 0, 1) := by decide +kernel
theorem dX10_times_61 : decode cX10_times 61 = .ok (.getfield 27, 3) := by decide +kernel
theorem dX10_times_64 : decode cX10_times 64 = .ok (.aload 4, 2) := by decide +kernel
theorem dX10_times_66 : decode cX10_times 66 = .ok (.aload 5, 2) := by decide +kernel
theorem dX10_times_68 : decode cX10_times 68 = .ok (.invokevirtual 190, 3) := by decide +kernel
theorem dX10_times_71 : decode cX10_times 71 = .ok (.aload_n 0, 1) := by decide +kernel
theorem dX10_times_72 : decode cX10_times 72 = .ok (.getfield 27, 3) := by decide +kernel
theorem dX10_times_75 : decode cX10_times 75 = .ok (.invokevirtual 151, 3) := by decide +kernel
theorem dX10_times_78 : decode cX10_times 78 = .ok (.ifCond .eq 6, 3) := by decide +kernel
theorem dX10_times_81 : decode cX10_times 81 = .ok (.ldc 154, 2) := by decide +kernel
theorem dX10_times_83 : decode cX10_times 83 = .ok (.ireturn, 1) := by decide +kernel
theorem dX10_times_84 : decode cX10_times 84 = .ok (.aload_n 0, 1) := by decide +kernel
theorem dX10_times_85 : decode cX10_times 85 = .ok (.aload_n 0, 1) := by decide +kernel
theorem dX10_times_86 : decode cX10_times 86 = .ok (.iload_n 1, 1) := by decide +kernel
theorem dX10_times_87 : decode cX10_times 87 = .ok (.aload_n 0, 1) := by decide +kernel
theorem dX10_times_88 : decode cX10_times 88 = .ok (.getfield 27, 3) := by decide +kernel
theorem dX10_times_91 : decode cX10_times 91 = .ok (.invokevirtual 155, 3) := by decide +kernel
theorem dX10_times_94 : decode cX10_times 94 = .ok (.invokevirtual 104, 3) := by decide +kernel
theorem dX10_times_97 : decode cX10_times 97 = .ok (.ireturn, 1) := by decide +kernel
theorem dX10_sum_0 : decode cX10_sum 0 = .ok (.iload_n 1, 1) := by decide +kernel
theorem dX10_sum_1 : decode cX10_sum 1 = .ok (.bipush 20, 2) := by decide +kernel
theorem dX10_sum_3 : decode cX10_sum 3 = .ok (.invokestatic 91, 3) := by decide +kernel
theorem dX10_sum_6 : decode cX10_sum 6 = .ok (.ifCond .ne 21, 3) := by decide +kernel
theorem dX10_sum_9 : decode cX10_sum 9 = .ok (.iload_n 2, 1) := by decide +kernel
theorem dX10_sum_10 : decode cX10_sum 10 = .ok (.bipush 20, 2) := by decide +kernel
theorem dX10_sum_12 : decode cX10_sum 12 = .ok (.invokestatic 91, 3) := by decide +kernel
theorem dX10_sum_15 : decode cX10_sum 15 = .ok (.ifCond .ne 12, 3) := by decide +kernel
theorem dX10_sum_18 : decode cX10_sum 18 = .ok (.iload_n 3, 1) := by decide +kernel
theorem dX10_sum_19 : decode cX10_sum 19 = .ok (.bipush 20, 2) := by decide +kernel
theorem dX10_sum_21 : decode cX10_sum 21 = .ok (.invokestatic 91, 3) := by decide +kernel
theorem dX10_sum_24 : decode cX10_sum 24 = .ok (.ifCond .eq 6, 3) := by decide +kernel
theorem dX10_sum_27 : decode cX10_sum 27 = .ok (.ldc 95, 2) := by decide +kernel
theorem dX10_sum_29 : decode cX10_sum 29 = .ok (.ireturn, 1) := by decide +kernel
theorem dX10_sum_30 : decode cX10_sum 30 = .ok (.aload_n 0, 1) := by decide +kernel
theorem dX10_sum_31 : decode cX10_sum 31 = .ok (.iload_n 2, 1) := by decide +kernel
theorem dX10_sum_32 : decode cX10_sum 32 = .ok (.invokevirtual 159, 3) := by decide +kernel
theorem dX10_sum_35 : decode cX10_sum 35 = .ok (.astore 4, 2) := by decide +kernel
theorem dX10_sum_37 : decode cX10_sum 37 = .ok (.aload_n 0, 1) := by decide +kernel
theorem dX10_sum_38 : decode cX10_sum 38 = .ok (.iload_n 3, 1) := by decide +kernel
theorem dX10_sum_39 : decode cX10_sum 39 = .ok (.invokevirtual 159, 3) := by decide +kernel
theorem dX10_sum_42 : decode cX10_sum 42 = .ok (.astore 5, 2) := by decide +kernel
theorem dX10_sum_44 : decode cX10_sum 44 = .ok (.aload 4, 2) := by decide +kernel
theorem dX10_sum_46 : decode cX10_sum 46 = .ok (.ifnull 8, 3) := by decide +kernel
theorem dX10_sum_49 : decode cX10_sum 49 = .ok (.aload 5, 2) := by decide +kernel
theorem dX10_sum_51 : decode cX10_sum 51 = .ok (.ifnonnull 9, 3) := by decide +kernel
theorem dX10_sum_54 : decode cX10_sum 54 = .ok (.aload_n 0, 1) := by decide +kernel
theorem dX10_sum_55 : decode cX10_sum 55 = .ok (.iconst 1, 1) := by decide +kernel
theorem dX10_sum_56 : decode cX10_sum 56 = .ok (.invokevirtual 96, 3) := by decide +kernel
theorem dX10_sum_59 : decode cX10_sum 59 = .ok (.ireturn, 1) := by decide +kernel
theorem dX10_sum_60 : decode cX10_sum 60 = .ok (.aload_n 0, 1) := by decide +kernel
theorem dX10_sum_61 : decode cX10_sum 61 = .ok (.getfield 27, 3) := by decide +kernel
theorem dX10_sum_64 : decode cX10_sum 64 = .ok (.aload 4, 2) := by decide +kernel
theorem dX10_sum_66 : decode cX10_sum 66 = .ok (.aload 5, 2) := by decide +kernel
theorem dX10_sum_68 : decode cX10_sum 68 = .ok (.invokevirtual 194, 3) := by decide +kernel
theorem dX10_sum_71 : decode cX10_sum 71 = .ok (.aload_n 0, 1) := by decide +kernel
theorem dX10_sum_72 : decode cX10_sum 72 = .ok (.getfield 27, 3) := by decide +kernel
theorem dX10_sum_75 : decode cX10_sum 75 = .ok (.invokevirtual 151, 3) := by decide +kernel
theorem dX10_sum_78 : decode cX10_sum 78 = .ok (.ifCond .eq 6, 3) := by decide +kernel
theorem dX10_sum_81 : decode cX10_sum 81 = .ok (.ldc 154, 2) := by decide +kernel
theorem dX10_sum_83 : decode cX10_sum 83 = .ok (.ireturn, 1) := by decide +kernel
theorem dX10_sum_84 : decode cX10_sum 84 = .ok (.aload_n 0, 1) := by decide +kernel
theorem dX10_sum_85 : decode cX10_sum 85 = .ok (.aload_n 0, 1) := by decide +kernel
theorem dX10_sum_86 : decode cX10_sum 86 = .ok (.iload_n 1, 1) := by decide +kernel
theorem dX10_sum_87 : decode cX10_sum 87 = .ok (.aload_n 0, 1) := by decide +kernel
theorem dX10_sum_88 : decode cX10_sum 88 = .ok (.getfield 27, 3) := by decide +kernel
theorem dX10_sum_91 : decode cX10_sum 91 = .ok (.invokevirtual 155, 3) := by decide +kernel
theorem dX10_sum_94 : decode cX10_sum 94 = .ok (.invokevirtual 104, 3) := by decide +kernel
theorem dX10_sum_97 : decode cX10_sum 97 = .ok (.ireturn, 1) := by decide +kernel
theorem dX10_back_0 : decode cX10_back 0 = .ok (.iload_n 1, 1) := by decide +kernel
theorem dX10_back_1 : decode cX10_back 1 = .ok (.bipush 20, 2) := by decide +kernel
theorem dX10_back_3 : decode cX10_back 3 = .ok (.invokestatic 91, 3) := by decide +kernel
theorem dX10_back_6 : decode cX10_back 6 = .ok (.ifCond .ne 12, 3) := by decide +kernel
theorem dX10_back_9 : decode cX10_back 9 = .ok (.iload_n 2, 1) := by decide +kernel
theorem dX10_back_10 : decode cX10_back 10 = .ok (.bipush 20, 2) := by decide +kernel
theorem dX10_back_12 : decode cX10_back 12 = .ok (.invokestatic 91, 3) := by decide +kernel
theorem dX10_back_15 : decode cX10_back 15 = .ok (.ifCond .eq 6, 3) := by decide +kernel
theorem dX10_back_18 : decode cX10_back 18 = .ok (.ldc 95, 2) := by decide +kernel
theorem dX10_back_20 : decode cX10_back 20 = .ok (.ireturn, 1) := by decide +kernel
theorem dX10_back_21 : decode cX10_back 21 = .ok (.aload_n 0, 1) := by decide +kernel
theorem dX10_back_22 : decode cX10_back 22 = .ok (.iload_n 2, 1) := by decide +kernel
theorem dX10_back_23 : decode cX10_back 23 = .ok (.invokevirtual 159, 3) := by decide +kernel
theorem dX10_back_26 : decode cX10_back 26 = .ok (.astore_n 3, 1) := by decide +kernel
theorem dX10_back_27 : decode cX10_back 27 = .ok (.aload_n 3, 1) := by decide +kernel
theorem dX10_back_28 : decode cX10_back 28 = .ok (.ifnonnull 9, 3) := by decide +kernel
theorem dX10_back_31 : decode cX10_back 31 = .ok (.aload_n 0, 1) := by decide +kernel
theorem dX10_back_32 : decode cX10_back 32 = .ok (.iconst 1, 1) := by decide +kernel
theorem dX10_back_33 : decode cX10_back 33 = .ok (.invokevirtual 96, 3) := by decide +kernel
theorem dX10_back_36 : decode cX10_back 36 = .ok (.ireturn, 1) := by decide +kernel
theorem dX10_back_37 : decode cX10_back 37 = .ok (.aload_n 0, 1) := by decide +kernel
theorem dX10_back_38 : decode cX10_back 38 = .ok (.getfield 27, 3) := by decide +kernel
theorem dX10_back_41 : decode cX10_back 41 = .ok (.aload_n 3, 1) := by decide +kernel
theorem dX10_back_42 : decode cX10_back 42 = .ok (.invokevirtual 197, 3) := by decide +kernel
theorem dX10_back_45 : decode cX10_back 45 = .ok (.aload_n 0, 1) := by decide +kernel
theorem dX10_back_46 : decode cX10_back 46 = .ok (.aload_n 0, 1) := by decide +kernel
theorem dX10_back_47 : decode cX10_back 47 = .ok (.iload_n 1, 1) := by decide +kernel
theorem dX10_back_48 : decode cX10_back 48 = .ok (.aload_n 0, 1) := by decide +kernel
theorem dX10_back_49 : decode cX10_back 49 = .ok (.getfield 27, 3) := by decide +kernel
theorem dX10_back_52 : decode cX10_back 52 = .ok (.invokevirtual 155, 3) := by decide +kernel
theorem dX10_back_55 : decode cX10_back 55 = .ok (.invokevirtual 104, 3) := by decide +kernel
theorem dX10_back_58 : decode cX10_back 58 = .ok (.ireturn, 1) := by decide +kernel
theorem dX10_over_0 : decode cX10_over 0 = .ok (.iload_n 1, 1) := by decide +kernel
theorem dX10_over_1 : decode cX10_over 1 = .ok (.bipush 20, 2) := by decide +kernel
theorem dX10_over_3 : decode cX10_over 3 = .ok (.invokestatic 91, 3) := by decide +kernel
theorem dX10_over_6 : decode cX10_over 6 = .ok (.ifCond .ne 31, 3) := by decide +kernel
theorem dX10_over_9 : decode cX10_over 9 = .ok (.iload_n 2, 1) := by decide +kernel
theorem dX10_over_10 : decode cX10_over 10 = .ok (.bipush 20, 2) := by decide +kernel
theorem dX10_over_12 : decode cX10_over 12 = .ok (.invokestatic 91, 3) := by decide +kernel
theorem dX10_over_15 : decode cX10_over 15 = .ok (.ifCond .ne 22, 3) := by decide +kernel
theorem dX10_over_18 : decode cX10_over 18 = .ok (.iload_n 3, 1) := by decide +kernel
theorem dX10_over_19 : decode cX10_over 19 = .ok (.bipush 20, 2) := by decide +kernel
theorem dX10_over_21 : decode cX10_over 21 = .ok (.invokestatic 91, 3) := by decide +kernel
theorem dX10_over_24 : decode cX10_over 24 = .ok (.ifCond .ne 13, 3) := by decide +kernel
theorem dX10_over_27 : decode cX10_over 27 = .ok (.iload 4, 2) := by decide +kernel
theorem dX10_over_29 : decode cX10_over 29 = .ok (.bipush 20, 2) := by decide +kernel
theorem dX10_over_31 : decode cX10_over 31 = .ok (.invokestatic 91, 3) := by decide +kernel
theorem dX10_over_34 : decode cX10_over 34 = .ok (.ifCond .eq 6, 3) := by decide +kernel
theorem dX10_over_37 : decode cX10_over 37 = .ok (.ldc 95, 2) := by decide +kernel
theorem dX10_over_39 : decode cX10_over 39 = .ok (.ireturn, 1) := by decide +kernel
theorem dX10_over_40 : decode cX10_over 40 = .ok (.iload 5, 2) := by decide +kernel
theorem dX10_over_42 : decode cX10_over 42 = .ok (.iconst 2, 1) := by decide +kernel
theorem dX10_over_43 : decode cX10_over 43 = .ok (.invokestatic 91, 3) := by decide +kernel
theorem dX10_over_46 : decode cX10_over 46 = .ok (.ifCond .eq 6, 3) := by decide +kernel
theorem dX10_over_49 : decode cX10_over 49 = .ok (.ldc 95, 2) := by decide +kernel
theorem dX10_over_51 : decode cX10_over 51 = .ok (.ireturn, 1) := by decide +kernel
theorem dX10_over_52 : decode cX10_over 52 = .ok (.aload_n 0, 1) := by decide +kernel
theorem dX10_over_53 : decode cX10_over 53 = .ok (.iload_n 3, 1) := by decide +kernel
theorem dX10_over_54 : decode cX10_over 54 = .ok (.invokevirtual 159, 3) := by decide +kernel
theorem dX10_over_57 : decode cX10_over 57 = .ok (.astore 6, 2) := by decide +kernel
theorem dX10_over_59 : decode cX10_over 59 = .ok (.aload_n 0, 1) := by decide +kernel
theorem dX10_over_60 : decode cX10_over 60 = .ok (.iload 4, 2) := by decide +kernel
theorem dX10_over_62 : decode cX10_over 62 = .ok (.invokevirtual 159, 3) := by decide +kernel
theorem dX10_over_65 : decode cX10_over 65 = .ok (.astore 7, 2) := by decide +kernel
theorem dX10_over_67 : decode cX10_over 67 = .ok (.aload 6, 2) := by decide +kernel
theorem dX10_over_69 : decode cX10_over 69 = .ok (.ifnull 8, 3) := by decide +kernel
theorem dX10_over_72 : decode cX10_over 72 = .ok (.aload 7, 2) := by decide +kernel
theorem dX10_over_74 : decode cX10_over 74 = .ok (.ifnonnull 9, 3) := by decide +kernel
theorem dX10_over_77 : decode cX10_over 77 = .ok (.aload_n 0, 1) := by decide +kernel
theorem dX10_over_78 : decode cX10_over 78 = .ok (.iconst 1, 1) := by decide +kernel
theorem dX10_over_79 : decode cX10_over 79 = .ok (.invokevirtual 96, 3) := by decide +kernel
theorem dX10_over_82 : decode cX10_over 82 = .ok (.ireturn, 1) := by decide +kernel
theorem dX10_over_83 : decode cX10_over 83 = .ok (.aload 7, 2) := by decide +kernel
theorem dX10_over_85 : decode cX10_over 85 = .ok (.invokevirtual 201, 3) := by decide +kernel
theorem dX10_over_88 : decode cX10_over 88 = .ok (.ifCond .eq 6, 3) := by decide +kernel
theorem dX10_over_91 : decode cX10_over 91 = .ok (.ldc 204, 2) := by decide +kernel
theorem dX10_over_93 : decode cX10_over 93 = .ok (.ireturn, 1) := by decide +kernel
theorem dX10_over_94 : decode cX10_over 94 = .ok (.aload_n 0, 1) := by decide +kernel
theorem dX10_over_95 : decode cX10_over 95 = .ok (.getfield 34, 3) := by decide +kernel
theorem dX10_over_98 : decode cX10_over 98 = .ok (.aload 6, 2) := by decide +kernel
theorem dX10_over_100 : decode cX10_over 100 = .ok (.aload 7, 2) := by decide +kernel
theorem dX10_over_102 : decode cX10_over 102 = .ok (.iload 5, 2) := by decide +kernel
theorem dX10_over_104 : decode cX10_over 104 = .ok (.invokevirtual 205, 3) := by decide +kernel
theorem dX10_over_107 : decode cX10_over 107 = .ok (.aload_n 0, 1) := by decide +kernel
theorem dX10_over_108 : decode cX10_over 108 = .ok (.iload_n 2, 1) := by decide +kernel
theorem dX10_over_109 : decode cX10_over 109 = .ok (.aload_n 0, 1) := by decide +kernel
theorem dX10_over_110 : decode cX10_over 110 = .ok (.getfield 34, 3) := by decide +kernel
theorem dX10_over_113 : decode cX10_over 113 = .ok (.getfield 209, 3) := by decide +kernel
theorem dX10_over_116 : decode cX10_over 116 = .ok (.invokevirtual 155, 3) := by decide +kernel
theorem dX10_over_119 : decode cX10_over 119 = .ok (.pop, 1) := by decide +kernel
theorem dX10_over_120 : decode cX10_over 120 = .ok (.aload_n 0, 1) := by decide +kernel
theorem dX10_over_121 : decode cX10_over 121 = .ok (.iload_n 1, 1) := by decide +kernel
theorem dX10_over_122 : decode cX10_over 122 = .ok (.aload_n 0, 1) := by decide +kernel
theorem dX10_over_123 : decode cX10_over 123 = .ok (.getfield 34, 3) := by decide +kernel
theorem dX10_over_126 : decode cX10_over 126 = .ok (.getfield 212, 3) := by decide +kernel
theorem dX10_over_129 : decode cX10_over 129 = .ok (.invokevirtual 155, 3) := by decide +kernel
theorem dX10_over_132 : decode cX10_over 132 = .ok (.pop, 1) := by decide +kernel
theorem dX10_over_133 : decode cX10_over 133 = .ok (.aload_n 0, 1) := by decide +kernel
theorem dX10_over_134 : decode cX10_over 134 = .ok (.aload_n 0, 1) := by decide +kernel
theorem dX10_over_135 : decode cX10_over 135 = .ok (.getfield 34, 3) := by decide +kernel
theorem dX10_over_138 : decode cX10_over 138 = .ok (.getfield 209, 3) := by decide +kernel
theorem dX10_over_141 : decode cX10_over 141 = .ok (.invokevirtual 166, 3) := by decide +kernel
theorem dX10_over_144 : decode cX10_over 144 = .ok (.l2i, 1) := by decide +kernel
theorem dX10_over_145 : decode cX10_over 145 = .ok (.invokevirtual 104, 3) := by decide +kernel
theorem dX10_over_148 : decode cX10_over 148 = .ok (.ireturn, 1) := by decide +kernel
theorem dX10_greatest_0 : decode cX10_greatest 0 = .ok (.iload_n 1, 1) := by decide +kernel
theorem dX10_greatest_1 : decode cX10_greatest 1 = .ok (.bipush 20, 2) := by decide +kernel
theorem dX10_greatest_3 : decode cX10_greatest 3 = .ok (.invokestatic 91, 3) := by decide +kernel
theorem dX10_greatest_6 : decode cX10_greatest 6 = .ok (.ifCond .ne 30, 3) := by decide +kernel
theorem dX10_greatest_9 : decode cX10_greatest 9 = .ok (.iload_n 2, 1) := by decide +kernel
theorem dX10_greatest_10 : decode cX10_greatest 10 = .ok (.bipush 20, 2) := by decide +kernel
theorem dX10_greatest_12 : decode cX10_greatest 12 = .ok (.invokestatic 91, 3) := by decide +kernel
theorem dX10_greatest_15 : decode cX10_greatest 15 = .ok (.ifCond .ne 21, 3) := by decide +kernel
theorem dX10_greatest_18 : decode cX10_greatest 18 = .ok (.iload_n 3, 1) := by decide +kernel
theorem dX10_greatest_19 : decode cX10_greatest 19 = .ok (.bipush 20, 2) := by decide +kernel
theorem dX10_greatest_21 : decode cX10_greatest 21 = .ok (.invokestatic 91, 3) := by decide +kernel
theorem dX10_greatest_24 : decode cX10_greatest 24 = .ok (.ifCond .ne 12, 3) := by decide +kernel
theorem dX10_greatest_27 : decode cX10_greatest 27 = .ok (.iload 4, 2) := by decide +kernel
theorem dX10_greatest_29 : decode cX10_greatest 29 = .ok (.iconst 2, 1) := by decide +kernel
theorem dX10_greatest_30 : decode cX10_greatest 30 = .ok (.invokestatic 91, 3) := by decide +kernel
theorem dX10_greatest_33 : decode cX10_greatest 33 = .ok (.ifCond .eq 6, 3) := by decide +kernel
theorem dX10_greatest_36 : decode cX10_greatest 36 = .ok (.ldc 95, 2) := by decide +kernel
theorem dX10_greatest_38 : decode cX10_greatest 38 = .ok (.ireturn, 1) := by decide +kernel
theorem dX10_greatest_39 : decode cX10_greatest 39 = .ok (.aload_n 0, 1) := by decide +kernel
theorem dX10_greatest_40 : decode cX10_greatest 40 = .ok (.iload_n 2, 1) := by decide +kernel
theorem dX10_greatest_41 : decode cX10_greatest 41 = .ok (.invokevirtual 159, 3) := by decide +kernel
theorem dX10_greatest_44 : decode cX10_greatest 44 = .ok (.astore 5, 2) := by decide +kernel
theorem dX10_greatest_46 : decode cX10_greatest 46 = .ok (.aload_n 0, 1) := by decide +kernel
theorem dX10_greatest_47 : decode cX10_greatest 47 = .ok (.iload_n 3, 1) := by decide +kernel
theorem dX10_greatest_48 : decode cX10_greatest 48 = .ok (.invokevirtual 159, 3) := by decide +kernel
theorem dX10_greatest_51 : decode cX10_greatest 51 = .ok (.astore 6, 2) := by decide +kernel
theorem dX10_greatest_53 : decode cX10_greatest 53 = .ok (.aload 5, 2) := by decide +kernel
theorem dX10_greatest_55 : decode cX10_greatest 55 = .ok (.ifnull 8, 3) := by decide +kernel
theorem dX10_greatest_58 : decode cX10_greatest 58 = .ok (.aload 6, 2) := by decide +kernel
theorem dX10_greatest_60 : decode cX10_greatest 60 = .ok (.ifnonnull 9, 3) := by decide +kernel
theorem dX10_greatest_63 : decode cX10_greatest 63 = .ok (.aload_n 0, 1) := by decide +kernel
theorem dX10_greatest_64 : decode cX10_greatest 64 = .ok (.iconst 1, 1) := by decide +kernel
theorem dX10_greatest_65 : decode cX10_greatest 65 = .ok (.invokevirtual 96, 3) := by decide +kernel
theorem dX10_greatest_68 : decode cX10_greatest 68 = .ok (.ireturn, 1) := by decide +kernel
theorem dX10_greatest_69 : decode cX10_greatest 69 = .ok (.aload 5, 2) := by decide +kernel
theorem dX10_greatest_71 : decode cX10_greatest 71 = .ok (.invokevirtual 201, 3) := by decide +kernel
theorem dX10_greatest_74 : decode cX10_greatest 74 = .ok (.ifCond .eq 14, 3) := by decide +kernel
theorem dX10_greatest_77 : decode cX10_greatest 77 = .ok (.aload 6, 2) := by decide +kernel
theorem dX10_greatest_79 : decode cX10_greatest 79 = .ok (.invokevirtual 201, 3) := by decide +kernel
theorem dX10_greatest_82 : decode cX10_greatest 82 = .ok (.ifCond .eq 6, 3) := by decide +kernel
theorem dX10_greatest_85 : decode cX10_greatest 85 = .ok (.ldc 204, 2) := by decide +kernel
theorem dX10_greatest_87 : decode cX10_greatest 87 = .ok (.ireturn, 1) := by decide +kernel
theorem dX10_greatest_88 : decode cX10_greatest 88 = .ok (.aload_n 0, 1) := by decide +kernel
theorem dX10_greatest_89 : decode cX10_greatest 89 = .ok (.getfield 48, 3) := by decide +kernel
theorem dX10_greatest_92 : decode cX10_greatest 92 = .ok (.aload 5, 2) := by decide +kernel
theorem dX10_greatest_94 : decode cX10_greatest 94 = .ok (.aload 6, 2) := by decide +kernel
theorem dX10_greatest_96 : decode cX10_greatest 96 = .ok (.iload 4, 2) := by decide +kernel
theorem dX10_greatest_98 : decode cX10_greatest 98 = .ok (.invokevirtual 215, 3) := by decide +kernel
theorem dX10_greatest_101 : decode cX10_greatest 101 = .ok (.aload_n 0, 1) := by decide +kernel
theorem dX10_greatest_102 : decode cX10_greatest 102 = .ok (.iload_n 1, 1) := by decide +kernel
theorem dX10_greatest_103 : decode cX10_greatest 103 = .ok (.aload_n 0, 1) := by decide +kernel
theorem dX10_greatest_104 : decode cX10_greatest 104 = .ok (.getfield 48, 3) := by decide +kernel
theorem dX10_greatest_107 : decode cX10_greatest 107 = .ok (.getfield 218, 3) := by decide +kernel
theorem dX10_greatest_110 : decode cX10_greatest 110 = .ok (.invokevirtual 155, 3) := by decide +kernel
theorem dX10_greatest_113 : decode cX10_greatest 113 = .ok (.pop, 1) := by decide +kernel
theorem dX10_greatest_114 : decode cX10_greatest 114 = .ok (.aload_n 0, 1) := by decide +kernel
theorem dX10_greatest_115 : decode cX10_greatest 115 = .ok (.aload_n 0, 1) := by decide +kernel
theorem dX10_greatest_116 : decode cX10_greatest 116 = .ok (.getfield 48, 3) := by decide +kernel
theorem dX10_greatest_119 : decode cX10_greatest 119 = .ok (.getfield 218, 3) := by decide +kernel
theorem dX10_greatest_122 : decode cX10_greatest 122 = .ok (.invokevirtual 166, 3) := by decide +kernel
theorem dX10_greatest_125 : decode cX10_greatest 125 = .ok (.l2i, 1) := by decide +kernel
theorem dX10_greatest_126 : decode cX10_greatest 126 = .ok (.invokevirtual 104, 3) := by decide +kernel
theorem dX10_greatest_129 : decode cX10_greatest 129 = .ok (.ireturn, 1) := by decide +kernel
theorem dX10_associate_0 : decode cX10_associate 0 = .ok (.iload_n 1, 1) := by decide +kernel
theorem dX10_associate_1 : decode cX10_associate 1 = .ok (.bipush 20, 2) := by decide +kernel
theorem dX10_associate_3 : decode cX10_associate 3 = .ok (.invokestatic 91, 3) := by decide +kernel
theorem dX10_associate_6 : decode cX10_associate 6 = .ok (.ifCond .ne 20, 3) := by decide +kernel
theorem dX10_associate_9 : decode cX10_associate 9 = .ok (.iload_n 2, 1) := by decide +kernel
theorem dX10_associate_10 : decode cX10_associate 10 = .ok (.bipush 20, 2) := by decide +kernel
theorem dX10_associate_12 : decode cX10_associate 12 = .ok (.invokestatic 91, 3) := by decide +kernel
theorem dX10_associate_15 : decode cX10_associate 15 = .ok (.ifCond .ne 11, 3) := by decide +kernel
theorem dX10_associate_18 : decode cX10_associate 18 = .ok (.iload_n 3, 1) := by decide +kernel
theorem dX10_associate_19 : decode cX10_associate 19 = .ok (.iconst 2, 1) := by decide +kernel
theorem dX10_associate_20 : decode cX10_associate 20 = .ok (.invokestatic 91, 3) := by decide +kernel
theorem dX10_associate_23 : decode cX10_associate 23 = .ok (.ifCond .eq 6, 3) := by decide +kernel
theorem dX10_associate_26 : decode cX10_associate 26 = .ok (.ldc 95, 2) := by decide +kernel
theorem dX10_associate_28 : decode cX10_associate 28 = .ok (.ireturn, 1) := by decide +kernel
theorem dX10_associate_29 : decode cX10_associate 29 = .ok (.aload_n 0, 1) := by decide +kernel
theorem dX10_associate_30 : decode cX10_associate 30 = .ok (.iload_n 2, 1) := by decide +kernel
theorem dX10_associate_31 : decode cX10_associate 31 = .ok (.invokevirtual 159, 3) := by decide +kernel
theorem dX10_associate_34 : decode cX10_associate 34 = .ok (.astore 4, 2) := by decide +kernel
theorem dX10_associate_36 : decode cX10_associate 36 = .ok (.aload 4, 2) := by decide +kernel
theorem dX10_associate_38 : decode cX10_associate 38 = .ok (.ifnonnull 9, 3) := by decide +kernel
theorem dX10_associate_41 : decode cX10_associate 41 = .ok (.aload_n 0, 1) := by decide +kernel
theorem dX10_associate_42 : decode cX10_associate 42 = .ok (.iconst 1, 1) := by decide +kernel
theorem dX10_associate_43 : decode cX10_associate 43 = .ok (.invokevirtual 96, 3) := by decide +kernel
theorem dX10_associate_46 : decode cX10_associate 46 = .ok (.ireturn, 1) := by decide +kernel
theorem dX10_associate_47 : decode cX10_associate 47 = .ok (.aload_n 0, 1) := by decide +kernel
theorem dX10_associate_48 : decode cX10_associate 48 = .ok (.getfield 41, 3) := by decide +kernel
theorem dX10_associate_51 : decode cX10_associate 51 = .ok (.aload 4, 2) := by decide +kernel
theorem dX10_associate_53 : decode cX10_associate 53 = .ok (.iload_n 3, 1) := by decide +kernel
theorem dX10_associate_54 : decode cX10_associate 54 = .ok (.invokevirtual 221, 3) := by decide +kernel
theorem dX10_associate_57 : decode cX10_associate 57 = .ok (.aload_n 0, 1) := by decide +kernel
theorem dX10_associate_58 : decode cX10_associate 58 = .ok (.aload_n 0, 1) := by decide +kernel
theorem dX10_associate_59 : decode cX10_associate 59 = .ok (.iload_n 1, 1) := by decide +kernel
theorem dX10_associate_60 : decode cX10_associate 60 = .ok (.aload_n 0, 1) := by decide +kernel
theorem dX10_associate_61 : decode cX10_associate 61 = .ok (.getfield 41, 3) := by decide +kernel
theorem dX10_associate_64 : decode cX10_associate 64 = .ok (.getfield 224, 3) := by decide +kernel
theorem dX10_associate_67 : decode cX10_associate 67 = .ok (.invokevirtual 155, 3) := by decide +kernel
theorem dX10_associate_70 : decode cX10_associate 70 = .ok (.invokevirtual 104, 3) := by decide +kernel
theorem dX10_associate_73 : decode cX10_associate 73 = .ok (.ireturn, 1) := by decide +kernel
theorem dX10_plain_0 : decode cX10_plain 0 = .ok (.iload_n 1, 1) := by decide +kernel
theorem dX10_plain_1 : decode cX10_plain 1 = .ok (.bipush 20, 2) := by decide +kernel
theorem dX10_plain_3 : decode cX10_plain 3 = .ok (.invokestatic 91, 3) := by decide +kernel
theorem dX10_plain_6 : decode cX10_plain 6 = .ok (.ifCond .ne 12, 3) := by decide +kernel
theorem dX10_plain_9 : decode cX10_plain 9 = .ok (.iload_n 2, 1) := by decide +kernel
theorem dX10_plain_10 : decode cX10_plain 10 = .ok (.bipush 20, 2) := by decide +kernel
theorem dX10_plain_12 : decode cX10_plain 12 = .ok (.invokestatic 91, 3) := by decide +kernel
theorem dX10_plain_15 : decode cX10_plain 15 = .ok (.ifCond .eq 6, 3) := by decide +kernel
theorem dX10_plain_18 : decode cX10_plain 18 = .ok (.ldc 95, 2) := by decide +kernel
theorem dX10_plain_20 : decode cX10_plain 20 = .ok (.ireturn, 1) := by decide +kernel
theorem dX10_plain_21 : decode cX10_plain 21 = .ok (.aload_n 0, 1) := by decide +kernel
theorem dX10_plain_22 : decode cX10_plain 22 = .ok (.iload_n 2, 1) := by decide +kernel
theorem dX10_plain_23 : decode cX10_plain 23 = .ok (.invokevirtual 159, 3) := by decide +kernel
theorem dX10_plain_26 : decode cX10_plain 26 = .ok (.astore_n 3, 1) := by decide +kernel
theorem dX10_plain_27 : decode cX10_plain 27 = .ok (.aload_n 3, 1) := by decide +kernel
theorem dX10_plain_28 : decode cX10_plain 28 = .ok (.ifnonnull 9, 3) := by decide +kernel
theorem dX10_plain_31 : decode cX10_plain 31 = .ok (.aload_n 0, 1) := by decide +kernel
theorem dX10_plain_32 : decode cX10_plain 32 = .ok (.iconst 1, 1) := by decide +kernel
theorem dX10_plain_33 : decode cX10_plain 33 = .ok (.invokevirtual 96, 3) := by decide +kernel
theorem dX10_plain_36 : decode cX10_plain 36 = .ok (.ireturn, 1) := by decide +kernel
theorem dX10_plain_37 : decode cX10_plain 37 = .ok (.aload_n 3, 1) := by decide +kernel
theorem dX10_plain_38 : decode cX10_plain 38 = .ok (.invokevirtual 201, 3) := by decide +kernel
theorem dX10_plain_41 : decode cX10_plain 41 = .ok (.ifCond .eq 6, 3) := by decide +kernel
theorem dX10_plain_44 : decode cX10_plain 44 = .ok (.ldc 204, 2) := by decide +kernel
theorem dX10_plain_46 : decode cX10_plain 46 = .ok (.ireturn, 1) := by decide +kernel
theorem dX10_plain_47 : decode cX10_plain 47 = .ok (.aload_n 3, 1) := by decide +kernel
theorem dX10_plain_48 : decode cX10_plain 48 = .ok (.invokevirtual 225, 3) := by decide +kernel
theorem dX10_plain_51 : decode cX10_plain 51 = .ok (.lstore 4, 2) := by decide +kernel
theorem dX10_plain_53 : decode cX10_plain 53 = .ok (.aload_n 0, 1) := by decide +kernel
theorem dX10_plain_54 : decode cX10_plain 54 = .ok (.getfield 27, 3) := by decide +kernel
theorem dX10_plain_57 : decode cX10_plain 57 = .ok (.aload_n 3, 1) := by decide +kernel
theorem dX10_plain_58 : decode cX10_plain 58 = .ok (.invokevirtual 228, 3) := by decide +kernel
theorem dX10_plain_61 : decode cX10_plain 61 = .ok (.aload_n 0, 1) := by decide +kernel
theorem dX10_plain_62 : decode cX10_plain 62 = .ok (.getfield 27, 3) := by decide +kernel
theorem dX10_plain_65 : decode cX10_plain 65 = .ok (.lload 4, 2) := by decide +kernel
theorem dX10_plain_67 : decode cX10_plain 67 = .ok (.invokevirtual 230, 3) := by decide +kernel
theorem dX10_plain_70 : decode cX10_plain 70 = .ok (.aload_n 0, 1) := by decide +kernel
theorem dX10_plain_71 : decode cX10_plain 71 = .ok (.iload_n 1, 1) := by decide +kernel
theorem dX10_plain_72 : decode cX10_plain 72 = .ok (.aload_n 0, 1) := by decide +kernel
theorem dX10_plain_73 : decode cX10_plain 73 = .ok (.getfield 27, 3) := by decide +kernel
theorem dX10_plain_76 : decode cX10_plain 76 = .ok (.invokevirtual 155, 3) := by decide +kernel
theorem dX10_plain_79 : decode cX10_plain 79 = .ok (.pop, 1) := by decide +kernel
theorem dX10_plain_80 : decode cX10_plain 80 = .ok (.aload_n 0, 1) := by decide +kernel
theorem dX10_plain_81 : decode cX10_plain 81 = .ok (.lload 4, 2) := by decide +kernel
theorem dX10_plain_83 : decode cX10_plain 83 = .ok (.l2i, 1) := by decide +kernel
theorem dX10_plain_84 : decode cX10_plain 84 = .ok (.invokevirtual 104, 3) := by decide +kernel
theorem dX10_plain_87 : decode cX10_plain 87 = .ok (.ireturn, 1) := by decide +kernel
theorem dX10_part_0 : decode cX10_part 0 = .ok (.iload_n 1, 1) := by decide +kernel
theorem dX10_part_1 : decode cX10_part 1 = .ok (.bipush 20, 2) := by decide +kernel
theorem dX10_part_3 : decode cX10_part 3 = .ok (.invokestatic 91, 3) := by decide +kernel
theorem dX10_part_6 : decode cX10_part 6 = .ok (.ifCond .ne 12, 3) := by decide +kernel
theorem dX10_part_9 : decode cX10_part 9 = .ok (.iload_n 2, 1) := by decide +kernel
theorem dX10_part_10 : decode cX10_part 10 = .ok (.bipush 20, 2) := by decide +kernel
theorem dX10_part_12 : decode cX10_part 12 = .ok (.invokestatic 91, 3) := by decide +kernel
theorem dX10_part_15 : decode cX10_part 15 = .ok (.ifCond .eq 6, 3) := by decide +kernel
theorem dX10_part_18 : decode cX10_part 18 = .ok (.ldc 95, 2) := by decide +kernel
theorem dX10_part_20 : decode cX10_part 20 = .ok (.ireturn, 1) := by decide +kernel
theorem dX10_part_21 : decode cX10_part 21 = .ok (.aload_n 0, 1) := by decide +kernel
theorem dX10_part_22 : decode cX10_part 22 = .ok (.iload_n 2, 1) := by decide +kernel
theorem dX10_part_23 : decode cX10_part 23 = .ok (.invokevirtual 159, 3) := by decide +kernel
theorem dX10_part_26 : decode cX10_part 26 = .ok (.astore 4, 2) := by decide +kernel
theorem dX10_part_28 : decode cX10_part 28 = .ok (.aload 4, 2) := by decide +kernel
theorem dX10_part_30 : decode cX10_part 30 = .ok (.ifnonnull 9, 3) := by decide +kernel
theorem dX10_part_33 : decode cX10_part 33 = .ok (.aload_n 0, 1) := by decide +kernel
theorem dX10_part_34 : decode cX10_part 34 = .ok (.iconst 1, 1) := by decide +kernel
theorem dX10_part_35 : decode cX10_part 35 = .ok (.invokevirtual 96, 3) := by decide +kernel
theorem dX10_part_38 : decode cX10_part 38 = .ok (.ireturn, 1) := by decide +kernel
theorem dX10_part_39 : decode cX10_part 39 = .ok (.aload_n 0, 1) := by decide +kernel
theorem dX10_part_40 : decode cX10_part 40 = .ok (.getfield 22, 3) := by decide +kernel
theorem dX10_part_43 : decode cX10_part 43 = .ok (.iload_n 2, 1) := by decide +kernel
theorem dX10_part_44 : decode cX10_part 44 = .ok (.iaload, 1) := by decide +kernel
theorem dX10_part_45 : decode cX10_part 45 = .ok (.iconst 2, 1) := by decide +kernel
theorem dX10_part_46 : decode cX10_part 46 = .ok (.if_icmp .eq 16, 3) := by decide +kernel
theorem dX10_part_49 : decode cX10_part 49 = .ok (.aload_n 0, 1) := by decide +kernel
theorem dX10_part_50 : decode cX10_part 50 = .ok (.getfield 22, 3) := by decide +kernel
theorem dX10_part_53 : decode cX10_part 53 = .ok (.iload_n 2, 1) := by decide +kernel
theorem dX10_part_54 : decode cX10_part 54 = .ok (.iaload, 1) := by decide +kernel
theorem dX10_part_55 : decode cX10_part 55 = .ok (.iconst 3, 1) := by decide +kernel
theorem dX10_part_56 : decode cX10_part 56 = .ok (.if_icmp .eq 6, 3) := by decide +kernel
theorem dX10_part_59 : decode cX10_part 59 = .ok (.ldc 204, 2) := by decide +kernel
theorem dX10_part_61 : decode cX10_part 61 = .ok (.ireturn, 1) := by decide +kernel
theorem dX10_part_62 : decode cX10_part 62 = .ok (.aload_n 0, 1) := by decide +kernel
theorem dX10_part_63 : decode cX10_part 63 = .ok (.getfield 55, 3) := by decide +kernel
theorem dX10_part_66 : decode cX10_part 66 = .ok (.aload 4, 2) := by decide +kernel
theorem dX10_part_68 : decode cX10_part 68 = .ok (.iload_n 3, 1) := by decide +kernel
theorem dX10_part_69 : decode cX10_part 69 = .ok (.invokevirtual 234, 3) := by decide +kernel
theorem dX10_part_72 : decode cX10_part 72 = .ok (.istore 5, 2) := by decide +kernel
theorem dX10_part_74 : decode cX10_part 74 = .ok (.iload_n 3, 1) := by decide +kernel
theorem dX10_part_75 : decode cX10_part 75 = .ok (.iload 5, 2) := by decide +kernel
theorem dX10_part_77 : decode cX10_part 77 = .ok (.invokestatic 91, 3) := by decide +kernel
theorem dX10_part_80 : decode cX10_part 80 = .ok (.ifCond .eq 10, 3) := by decide +kernel
theorem dX10_part_83 : decode cX10_part 83 = .ok (.aload_n 0, 1) := by decide +kernel
theorem dX10_part_84 : decode cX10_part 84 = .ok (.ldc 237, 2) := by decide +kernel
theorem dX10_part_86 : decode cX10_part 86 = .ok (.invokevirtual 104, 3) := by decide +kernel
theorem dX10_part_89 : decode cX10_part 89 = .ok (.ireturn, 1) := by decide +kernel
theorem dX10_part_90 : decode cX10_part 90 = .ok (.aload_n 0, 1) := by decide +kernel
theorem dX10_part_91 : decode cX10_part 91 = .ok (.iload_n 1, 1) := by decide +kernel
theorem dX10_part_92 : decode cX10_part 92 = .ok (.aload_n 0, 1) := by decide +kernel
theorem dX10_part_93 : decode cX10_part 93 = .ok (.getfield 55, 3) := by decide +kernel
theorem dX10_part_96 : decode cX10_part 96 = .ok (.getfield 238, 3) := by decide +kernel
theorem dX10_part_99 : decode cX10_part 99 = .ok (.invokevirtual 155, 3) := by decide +kernel
theorem dX10_part_102 : decode cX10_part 102 = .ok (.pop, 1) := by decide +kernel
theorem dX10_part_103 : decode cX10_part 103 = .ok (.aload_n 0, 1) := by decide +kernel
theorem dX10_part_104 : decode cX10_part 104 = .ok (.iload 5, 2) := by decide +kernel
theorem dX10_part_106 : decode cX10_part 106 = .ok (.invokevirtual 104, 3) := by decide +kernel
theorem dX10_part_109 : decode cX10_part 109 = .ok (.ireturn, 1) := by decide +kernel
theorem dX10_many_0 : decode cX10_many 0 = .ok (.iload_n 1, 1) := by decide +kernel
theorem dX10_many_1 : decode cX10_many 1 = .ok (.iconst 1, 1) := by decide +kernel
theorem dX10_many_2 : decode cX10_many 2 = .ok (.if_icmp .lt 9, 3) := by decide +kernel
theorem dX10_many_5 : decode cX10_many 5 = .ok (.iload_n 1, 1) := by decide +kernel
theorem dX10_many_6 : decode cX10_many 6 = .ok (.ldc 241, 2) := by decide +kernel
theorem dX10_many_8 : decode cX10_many 8 = .ok (.if_icmp .le 6, 3) := by decide +kernel
theorem dX10_many_11 : decode cX10_many 11 = .ok (.ldc 95, 2) := by decide +kernel
theorem dX10_many_13 : decode cX10_many 13 = .ok (.ireturn, 1) := by decide +kernel
theorem dX10_many_14 : decode cX10_many 14 = .ok (.bipush 24, 2) := by decide +kernel
theorem dX10_many_16 : decode cX10_many 16 = .ok (.iload_n 1, 1) := by decide +kernel
theorem dX10_many_17 : decode cX10_many 17 = .ok (.iconst 2, 1) := by decide +kernel
theorem dX10_many_18 : decode cX10_many 18 = .ok (.invokestatic 242, 3) := by decide +kernel
theorem dX10_many_21 : decode cX10_many 21 = .ok (.imul, 1) := by decide +kernel
theorem dX10_many_22 : decode cX10_many 22 = .ok (.ireturn, 1) := by decide +kernel
theorem dX10_list_0 : decode cX10_list 0 = .ok (.iload_n 1, 1) := by decide +kernel
theorem dX10_list_1 : decode cX10_list 1 = .ok (.bipush 20, 2) := by decide +kernel
theorem dX10_list_3 : decode cX10_list 3 = .ok (.invokestatic 91, 3) := by decide +kernel
theorem dX10_list_6 : decode cX10_list 6 = .ok (.ifCond .ne 15, 3) := by decide +kernel
theorem dX10_list_9 : decode cX10_list 9 = .ok (.iload_n 2, 1) := by decide +kernel
theorem dX10_list_10 : decode cX10_list 10 = .ok (.iconst 1, 1) := by decide +kernel
theorem dX10_list_11 : decode cX10_list 11 = .ok (.if_icmp .lt 10, 3) := by decide +kernel
theorem dX10_list_14 : decode cX10_list 14 = .ok (.iload_n 2, 1) := by decide +kernel
theorem dX10_list_15 : decode cX10_list 15 = .ok (.sipush 150, 3) := by decide +kernel
theorem dX10_list_18 : decode cX10_list 18 = .ok (.if_icmp .le 6, 3) := by decide +kernel
theorem dX10_list_21 : decode cX10_list 21 = .ok (.ldc 95, 2) := by decide +kernel
theorem dX10_list_23 : decode cX10_list 23 = .ok (.ireturn, 1) := by decide +kernel
theorem dX10_list_24 : decode cX10_list 24 = .ok (.iload_n 3, 1) := by decide +kernel
theorem dX10_list_25 : decode cX10_list 25 = .ok (.bipush 24, 2) := by decide +kernel
theorem dX10_list_27 : decode cX10_list 27 = .ok (.iload_n 2, 1) := by decide +kernel
theorem dX10_list_28 : decode cX10_list 28 = .ok (.iconst 2, 1) := by decide +kernel
theorem dX10_list_29 : decode cX10_list 29 = .ok (.invokestatic 242, 3) := by decide +kernel
theorem dX10_list_32 : decode cX10_list 32 = .ok (.imul, 1) := by decide +kernel
theorem dX10_list_33 : decode cX10_list 33 = .ok (.invokestatic 91, 3) := by decide +kernel
theorem dX10_list_36 : decode cX10_list 36 = .ok (.ifCond .eq 6, 3) := by decide +kernel
theorem dX10_list_39 : decode cX10_list 39 = .ok (.ldc 237, 2) := by decide +kernel
theorem dX10_list_41 : decode cX10_list 41 = .ok (.ireturn, 1) := by decide +kernel
theorem dX10_list_42 : decode cX10_list 42 = .ok (.aload_n 0, 1) := by decide +kernel
theorem dX10_list_43 : decode cX10_list 43 = .ok (.getfield 62, 3) := by decide +kernel
theorem dX10_list_46 : decode cX10_list 46 = .ok (.iload_n 2, 1) := by decide +kernel
theorem dX10_list_47 : decode cX10_list 47 = .ok (.iload_n 3, 1) := by decide +kernel
theorem dX10_list_48 : decode cX10_list 48 = .ok (.invokevirtual 246, 3) := by decide +kernel
theorem dX10_list_51 : decode cX10_list 51 = .ok (.ifCond .ne 6, 3) := by decide +kernel
theorem dX10_list_54 : decode cX10_list 54 = .ok (.ldc 237, 2) := by decide +kernel
theorem dX10_list_56 : decode cX10_list 56 = .ok (.ireturn, 1) := by decide +kernel
theorem dX10_list_57 : decode cX10_list 57 = .ok (.aload_n 0, 1) := by decide +kernel
theorem dX10_list_58 : decode cX10_list 58 = .ok (.iload_n 1, 1) := by decide +kernel
theorem dX10_list_59 : decode cX10_list 59 = .ok (.aload_n 0, 1) := by decide +kernel
theorem dX10_list_60 : decode cX10_list 60 = .ok (.getfield 62, 3) := by decide +kernel
theorem dX10_list_63 : decode cX10_list 63 = .ok (.getfield 248, 3) := by decide +kernel
theorem dX10_list_66 : decode cX10_list 66 = .ok (.invokevirtual 155, 3) := by decide +kernel
theorem dX10_list_69 : decode cX10_list 69 = .ok (.ireturn, 1) := by decide +kernel
theorem dX10_squares_0 : decode cX10_squares 0 = .ok (.iload_n 1, 1) := by decide +kernel
theorem dX10_squares_1 : decode cX10_squares 1 = .ok (.ifCond .lt 9, 3) := by decide +kernel
theorem dX10_squares_4 : decode cX10_squares 4 = .ok (.iload_n 1, 1) := by decide +kernel
theorem dX10_squares_5 : decode cX10_squares 5 = .ok (.ldc 241, 2) := by decide +kernel
theorem dX10_squares_7 : decode cX10_squares 7 = .ok (.if_icmp .le 6, 3) := by decide +kernel
theorem dX10_squares_10 : decode cX10_squares 10 = .ok (.ldc 95, 2) := by decide +kernel
theorem dX10_squares_12 : decode cX10_squares 12 = .ok (.ireturn, 1) := by decide +kernel
theorem dX10_squares_13 : decode cX10_squares 13 = .ok (.iload_n 1, 1) := by decide +kernel
theorem dX10_squares_14 : decode cX10_squares 14 = .ok (.ifCond .ne 5, 3) := by decide +kernel
theorem dX10_squares_17 : decode cX10_squares 17 = .ok (.iconst 1, 1) := by decide +kernel
theorem dX10_squares_18 : decode cX10_squares 18 = .ok (.ireturn, 1) := by decide +kernel
theorem dX10_squares_19 : decode cX10_squares 19 = .ok (.bipush 8, 2) := by decide +kernel
theorem dX10_squares_21 : decode cX10_squares 21 = .ok (.iload_n 1, 1) := by decide +kernel
theorem dX10_squares_22 : decode cX10_squares 22 = .ok (.iconst 4, 1) := by decide +kernel
theorem dX10_squares_23 : decode cX10_squares 23 = .ok (.invokestatic 242, 3) := by decide +kernel
theorem dX10_squares_26 : decode cX10_squares 26 = .ok (.imul, 1) := by decide +kernel
theorem dX10_squares_27 : decode cX10_squares 27 = .ok (.ireturn, 1) := by decide +kernel
theorem dX10_three_0 : decode cX10_three 0 = .ok (.iload_n 1, 1) := by decide +kernel
theorem dX10_three_1 : decode cX10_three 1 = .ok (.ifCond .lt 9, 3) := by decide +kernel
theorem dX10_three_4 : decode cX10_three 4 = .ok (.iload_n 1, 1) := by decide +kernel
theorem dX10_three_5 : decode cX10_three 5 = .ok (.ldc 241, 2) := by decide +kernel
theorem dX10_three_7 : decode cX10_three 7 = .ok (.if_icmp .le 6, 3) := by decide +kernel
theorem dX10_three_10 : decode cX10_three 10 = .ok (.ldc 95, 2) := by decide +kernel
theorem dX10_three_12 : decode cX10_three 12 = .ok (.ireturn, 1) := by decide +kernel
theorem dX10_three_13 : decode cX10_three 13 = .ok (.iload_n 1, 1) := by decide +kernel
theorem dX10_three_14 : decode cX10_three 14 = .ok (.i2l, 1) := by decide +kernel
theorem dX10_three_15 : decode cX10_three 15 = .ok (.iconst 4, 1) := by decide +kernel
theorem dX10_three_16 : decode cX10_three 16 = .ok (.invokestatic 249, 3) := by decide +kernel
theorem dX10_three_19 : decode cX10_three 19 = .ok (.ldc2_w 253, 3) := by decide +kernel
theorem dX10_three_22 : decode cX10_three 22 = .ok (.lrem, 1) := by decide +kernel
theorem dX10_three_23 : decode cX10_three 23 = .ok (.ldc2_w 255, 3) := by decide +kernel
theorem dX10_three_26 : decode cX10_three 26 = .ok (.lcmp, 1) := by decide +kernel
theorem dX10_three_27 : decode cX10_three 27 = .ok (.ifCond .ne 7, 3) := by decide +kernel
theorem dX10_three_30 : decode cX10_three 30 = .ok (.iconst 0, 1) := by decide +kernel
theorem dX10_three_31 : decode cX10_three 31 = .ok (.goto 4, 3) := by decide +kernel
theorem dX10_three_34 : decode cX10_three 34 = .ok (.iconst 1, 1) := by decide +kernel
theorem dX10_three_35 : decode cX10_three 35 = .ok (.ireturn, 1) := by decide +kernel
theorem dX10_table_0 : decode cX10_table 0 = .ok (.iload_n 1, 1) := by decide +kernel
theorem dX10_table_1 : decode cX10_table 1 = .ok (.bipush 20, 2) := by decide +kernel
theorem dX10_table_3 : decode cX10_table 3 = .ok (.invokestatic 91, 3) := by decide +kernel
theorem dX10_table_6 : decode cX10_table 6 = .ok (.ifCond .ne 28, 3) := by decide +kernel
theorem dX10_table_9 : decode cX10_table 9 = .ok (.iload_n 2, 1) := by decide +kernel
theorem dX10_table_10 : decode cX10_table 10 = .ok (.iconst 3, 1) := by decide +kernel
theorem dX10_table_11 : decode cX10_table 11 = .ok (.invokestatic 91, 3) := by decide +kernel
theorem dX10_table_14 : decode cX10_table 14 = .ok (.ifCond .ne 20, 3) := by decide +kernel
theorem dX10_table_17 : decode cX10_table 17 = .ok (.iload_n 3, 1) := by decide +kernel
theorem dX10_table_18 : decode cX10_table 18 = .ok (.iconst 3, 1) := by decide +kernel
theorem dX10_table_19 : decode cX10_table 19 = .ok (.invokestatic 91, 3) := by decide +kernel
theorem dX10_table_22 : decode cX10_table 22 = .ok (.ifCond .ne 12, 3) := by decide +kernel
theorem dX10_table_25 : decode cX10_table 25 = .ok (.iload 4, 2) := by decide +kernel
theorem dX10_table_27 : decode cX10_table 27 = .ok (.iconst 2, 1) := by decide +kernel
theorem dX10_table_28 : decode cX10_table 28 = .ok (.invokestatic 91, 3) := by decide +kernel
theorem dX10_table_31 : decode cX10_table 31 = .ok (.ifCond .eq 7, 3) := by decide +kernel
theorem dX10_table_34 : decode cX10_table 34 = .ok (.ldc2_w 107, 3) := by decide +kernel
theorem dX10_table_37 : decode cX10_table 37 = .ok (.lreturn, 1) := by decide +kernel
theorem dX10_table_38 : decode cX10_table 38 = .ok (.aload_n 0, 1) := by decide +kernel
theorem dX10_table_39 : decode cX10_table 39 = .ok (.iload_n 1, 1) := by decide +kernel
theorem dX10_table_40 : decode cX10_table 40 = .ok (.invokevirtual 159, 3) := by decide +kernel
theorem dX10_table_43 : decode cX10_table 43 = .ok (.astore 5, 2) := by decide +kernel
theorem dX10_table_45 : decode cX10_table 45 = .ok (.aload 5, 2) := by decide +kernel
theorem dX10_table_47 : decode cX10_table 47 = .ok (.ifnonnull 10, 3) := by decide +kernel
theorem dX10_table_50 : decode cX10_table 50 = .ok (.aload_n 0, 1) := by decide +kernel
theorem dX10_table_51 : decode cX10_table 51 = .ok (.iconst 1, 1) := by decide +kernel
theorem dX10_table_52 : decode cX10_table 52 = .ok (.invokevirtual 96, 3) := by decide +kernel
theorem dX10_table_55 : decode cX10_table 55 = .ok (.i2l, 1) := by decide +kernel
theorem dX10_table_56 : decode cX10_table 56 = .ok (.lreturn, 1) := by decide +kernel
theorem dX10_table_57 : decode cX10_table 57 = .ok (.aload 5, 2) := by decide +kernel
theorem dX10_table_59 : decode cX10_table 59 = .ok (.invokevirtual 201, 3) := by decide +kernel
theorem dX10_table_62 : decode cX10_table 62 = .ok (.ifCond .eq 7, 3) := by decide +kernel
theorem dX10_table_65 : decode cX10_table 65 = .ok (.ldc2_w 257, 3) := by decide +kernel
theorem dX10_table_68 : decode cX10_table 68 = .ok (.lreturn, 1) := by decide +kernel
theorem dX10_table_69 : decode cX10_table 69 = .ok (.aload_n 0, 1) := by decide +kernel
theorem dX10_table_70 : decode cX10_table 70 = .ok (.getfield 69, 3) := by decide +kernel
theorem dX10_table_73 : decode cX10_table 73 = .ok (.aload 5, 2) := by decide +kernel
theorem dX10_table_75 : decode cX10_table 75 = .ok (.invokevirtual 259, 3) := by decide +kernel
theorem dX10_table_78 : decode cX10_table 78 = .ok (.aload_n 0, 1) := by decide +kernel
theorem dX10_table_79 : decode cX10_table 79 = .ok (.iconst 0, 1) := by decide +kernel
theorem dX10_table_80 : decode cX10_table 80 = .ok (.putfield 87, 3) := by decide +kernel
theorem dX10_table_83 : decode cX10_table 83 = .ok (.aload_n 0, 1) := by decide +kernel
theorem dX10_table_84 : decode cX10_table 84 = .ok (.getfield 69, 3) := by decide +kernel
theorem dX10_table_87 : decode cX10_table 87 = .ok (.iload_n 2, 1) := by decide +kernel
theorem dX10_table_88 : decode cX10_table 88 = .ok (.iload_n 3, 1) := by decide +kernel
theorem dX10_table_89 : decode cX10_table 89 = .ok (.invokevirtual 262, 3) := by decide +kernel
theorem dX10_table_92 : decode cX10_table 92 = .ok (.aload_n 0, 1) := by decide +kernel
theorem dX10_table_93 : decode cX10_table 93 = .ok (.getfield 69, 3) := by decide +kernel
theorem dX10_table_96 : decode cX10_table 96 = .ok (.getfield 266, 3) := by decide +kernel
theorem dX10_table_99 : decode cX10_table 99 = .ok (.iload 4, 2) := by decide +kernel
theorem dX10_table_101 : decode cX10_table 101 = .ok (.invokestatic 270, 3) := by decide +kernel
theorem dX10_table_104 : decode cX10_table 104 = .ok (.lreturn, 1) := by decide +kernel
theorem dX10_turn_0 : decode cX10_turn 0 = .ok (.iload_n 1, 1) := by decide +kernel
theorem dX10_turn_1 : decode cX10_turn 1 = .ok (.bipush 20, 2) := by decide +kernel
theorem dX10_turn_3 : decode cX10_turn 3 = .ok (.invokestatic 91, 3) := by decide +kernel
theorem dX10_turn_6 : decode cX10_turn 6 = .ok (.ifCond .ne 21, 3) := by decide +kernel
theorem dX10_turn_9 : decode cX10_turn 9 = .ok (.iload 5, 2) := by decide +kernel
theorem dX10_turn_11 : decode cX10_turn 11 = .ok (.iconst 3, 1) := by decide +kernel
theorem dX10_turn_12 : decode cX10_turn 12 = .ok (.invokestatic 91, 3) := by decide +kernel
theorem dX10_turn_15 : decode cX10_turn 15 = .ok (.ifCond .ne 12, 3) := by decide +kernel
theorem dX10_turn_18 : decode cX10_turn 18 = .ok (.iload 6, 2) := by decide +kernel
theorem dX10_turn_20 : decode cX10_turn 20 = .ok (.iconst 2, 1) := by decide +kernel
theorem dX10_turn_21 : decode cX10_turn 21 = .ok (.invokestatic 91, 3) := by decide +kernel
theorem dX10_turn_24 : decode cX10_turn 24 = .ok (.ifCond .eq 7, 3) := by decide +kernel
theorem dX10_turn_27 : decode cX10_turn 27 = .ok (.ldc2_w 107, 3) := by decide +kernel
theorem dX10_turn_30 : decode cX10_turn 30 = .ok (.lreturn, 1) := by decide +kernel
theorem dX10_turn_31 : decode cX10_turn 31 = .ok (.iload_n 2, 1) := by decide +kernel
theorem dX10_turn_32 : decode cX10_turn 32 = .ok (.invokestatic 274, 3) := by decide +kernel
theorem dX10_turn_35 : decode cX10_turn 35 = .ok (.ifCond .ne 18, 3) := by decide +kernel
theorem dX10_turn_38 : decode cX10_turn 38 = .ok (.iload_n 3, 1) := by decide +kernel
theorem dX10_turn_39 : decode cX10_turn 39 = .ok (.invokestatic 274, 3) := by decide +kernel
theorem dX10_turn_42 : decode cX10_turn 42 = .ok (.ifCond .ne 11, 3) := by decide +kernel
theorem dX10_turn_45 : decode cX10_turn 45 = .ok (.iload 4, 2) := by decide +kernel
theorem dX10_turn_47 : decode cX10_turn 47 = .ok (.invokestatic 274, 3) := by decide +kernel
theorem dX10_turn_50 : decode cX10_turn 50 = .ok (.ifCond .eq 7, 3) := by decide +kernel
theorem dX10_turn_53 : decode cX10_turn 53 = .ok (.ldc2_w 107, 3) := by decide +kernel
theorem dX10_turn_56 : decode cX10_turn 56 = .ok (.lreturn, 1) := by decide +kernel
theorem dX10_turn_57 : decode cX10_turn 57 = .ok (.aload_n 0, 1) := by decide +kernel
theorem dX10_turn_58 : decode cX10_turn 58 = .ok (.iload_n 1, 1) := by decide +kernel
theorem dX10_turn_59 : decode cX10_turn 59 = .ok (.invokevirtual 159, 3) := by decide +kernel
theorem dX10_turn_62 : decode cX10_turn 62 = .ok (.astore 7, 2) := by decide +kernel
theorem dX10_turn_64 : decode cX10_turn 64 = .ok (.aload 7, 2) := by decide +kernel
theorem dX10_turn_66 : decode cX10_turn 66 = .ok (.ifnonnull 10, 3) := by decide +kernel
theorem dX10_turn_69 : decode cX10_turn 69 = .ok (.aload_n 0, 1) := by decide +kernel
theorem dX10_turn_70 : decode cX10_turn 70 = .ok (.iconst 1, 1) := by decide +kernel
theorem dX10_turn_71 : decode cX10_turn 71 = .ok (.invokevirtual 96, 3) := by decide +kernel
theorem dX10_turn_74 : decode cX10_turn 74 = .ok (.i2l, 1) := by decide +kernel
theorem dX10_turn_75 : decode cX10_turn 75 = .ok (.lreturn, 1) := by decide +kernel
theorem dX10_turn_76 : decode cX10_turn 76 = .ok (.aload 7, 2) := by decide +kernel
theorem dX10_turn_78 : decode cX10_turn 78 = .ok (.invokevirtual 201, 3) := by decide +kernel
theorem dX10_turn_81 : decode cX10_turn 81 = .ok (.ifCond .eq 7, 3) := by decide +kernel
theorem dX10_turn_84 : decode cX10_turn 84 = .ok (.ldc2_w 257, 3) := by decide +kernel
theorem dX10_turn_87 : decode cX10_turn 87 = .ok (.lreturn, 1) := by decide +kernel
theorem dX10_turn_88 : decode cX10_turn 88 = .ok (.aload_n 0, 1) := by decide +kernel
theorem dX10_turn_89 : decode cX10_turn 89 = .ok (.getfield 69, 3) := by decide +kernel
theorem dX10_turn_92 : decode cX10_turn 92 = .ok (.aload 7, 2) := by decide +kernel
theorem dX10_turn_94 : decode cX10_turn 94 = .ok (.invokevirtual 259, 3) := by decide +kernel
theorem dX10_turn_97 : decode cX10_turn 97 = .ok (.aload_n 0, 1) := by decide +kernel
theorem dX10_turn_98 : decode cX10_turn 98 = .ok (.iconst 0, 1) := by decide +kernel
theorem dX10_turn_99 : decode cX10_turn 99 = .ok (.putfield 87, 3) := by decide +kernel
theorem dX10_turn_102 : decode cX10_turn 102 = .ok (.aload_n 0, 1) := by decide +kernel
theorem dX10_turn_103 : decode cX10_turn 103 = .ok (.getfield 69, 3) := by decide +kernel
theorem dX10_turn_106 : decode cX10_turn 106 = .ok (.iload_n 2, 1) := by decide +kernel
theorem dX10_turn_107 : decode cX10_turn 107 = .ok (.i2l, 1) := by decide +kernel
theorem dX10_turn_108 : decode cX10_turn 108 = .ok (.iload_n 3, 1) := by decide +kernel
theorem dX10_turn_109 : decode cX10_turn 109 = .ok (.i2l, 1) := by decide +kernel
theorem dX10_turn_110 : decode cX10_turn 110 = .ok (.iload 4, 2) := by decide +kernel
theorem dX10_turn_112 : decode cX10_turn 112 = .ok (.i2l, 1) := by decide +kernel
theorem dX10_turn_113 : decode cX10_turn 113 = .ok (.iload 5, 2) := by decide +kernel
theorem dX10_turn_115 : decode cX10_turn 115 = .ok (.invokevirtual 278, 3) := by decide +kernel
theorem dX10_turn_118 : decode cX10_turn 118 = .ok (.aload_n 0, 1) := by decide +kernel
theorem dX10_turn_119 : decode cX10_turn 119 = .ok (.getfield 69, 3) := by decide +kernel
theorem dX10_turn_122 : decode cX10_turn 122 = .ok (.getfield 266, 3) := by decide +kernel
theorem dX10_turn_125 : decode cX10_turn 125 = .ok (.iload 6, 2) := by decide +kernel
theorem dX10_turn_127 : decode cX10_turn 127 = .ok (.invokestatic 270, 3) := by decide +kernel
theorem dX10_turn_130 : decode cX10_turn 130 = .ok (.lreturn, 1) := by decide +kernel
theorem dX10_order_0 : decode cX10_order 0 = .ok (.iload_n 1, 1) := by decide +kernel
theorem dX10_order_1 : decode cX10_order 1 = .ok (.bipush 20, 2) := by decide +kernel
theorem dX10_order_3 : decode cX10_order 3 = .ok (.invokestatic 91, 3) := by decide +kernel
theorem dX10_order_6 : decode cX10_order 6 = .ok (.ifCond .eq 6, 3) := by decide +kernel
theorem dX10_order_9 : decode cX10_order 9 = .ok (.ldc 95, 2) := by decide +kernel
theorem dX10_order_11 : decode cX10_order 11 = .ok (.ireturn, 1) := by decide +kernel
theorem dX10_order_12 : decode cX10_order 12 = .ok (.aload_n 0, 1) := by decide +kernel
theorem dX10_order_13 : decode cX10_order 13 = .ok (.iload_n 1, 1) := by decide +kernel
theorem dX10_order_14 : decode cX10_order 14 = .ok (.invokevirtual 159, 3) := by decide +kernel
theorem dX10_order_17 : decode cX10_order 17 = .ok (.astore_n 2, 1) := by decide +kernel
theorem dX10_order_18 : decode cX10_order 18 = .ok (.aload_n 2, 1) := by decide +kernel
theorem dX10_order_19 : decode cX10_order 19 = .ok (.ifnonnull 9, 3) := by decide +kernel
theorem dX10_order_22 : decode cX10_order 22 = .ok (.aload_n 0, 1) := by decide +kernel
theorem dX10_order_23 : decode cX10_order 23 = .ok (.iconst 1, 1) := by decide +kernel
theorem dX10_order_24 : decode cX10_order 24 = .ok (.invokevirtual 96, 3) := by decide +kernel
theorem dX10_order_27 : decode cX10_order 27 = .ok (.ireturn, 1) := by decide +kernel
theorem dX10_order_28 : decode cX10_order 28 = .ok (.aload_n 2, 1) := by decide +kernel
theorem dX10_order_29 : decode cX10_order 29 = .ok (.invokevirtual 201, 3) := by decide +kernel
theorem dX10_order_32 : decode cX10_order 32 = .ok (.ifCond .eq 6, 3) := by decide +kernel
theorem dX10_order_35 : decode cX10_order 35 = .ok (.ldc 204, 2) := by decide +kernel
theorem dX10_order_37 : decode cX10_order 37 = .ok (.ireturn, 1) := by decide +kernel
theorem dX10_order_38 : decode cX10_order 38 = .ok (.aload_n 0, 1) := by decide +kernel
theorem dX10_order_39 : decode cX10_order 39 = .ok (.aload_n 2, 1) := by decide +kernel
theorem dX10_order_40 : decode cX10_order 40 = .ok (.invokestatic 282, 3) := by decide +kernel
theorem dX10_order_43 : decode cX10_order 43 = .ok (.invokevirtual 104, 3) := by decide +kernel
theorem dX10_order_46 : decode cX10_order 46 = .ok (.ireturn, 1) := by decide +kernel
theorem dX10_axis_0 : decode cX10_axis 0 = .ok (.iload_n 1, 1) := by decide +kernel
theorem dX10_axis_1 : decode cX10_axis 1 = .ok (.bipush 20, 2) := by decide +kernel
theorem dX10_axis_3 : decode cX10_axis 3 = .ok (.invokestatic 91, 3) := by decide +kernel
theorem dX10_axis_6 : decode cX10_axis 6 = .ok (.ifCond .ne 11, 3) := by decide +kernel
theorem dX10_axis_9 : decode cX10_axis 9 = .ok (.iload_n 2, 1) := by decide +kernel
theorem dX10_axis_10 : decode cX10_axis 10 = .ok (.iconst 3, 1) := by decide +kernel
theorem dX10_axis_11 : decode cX10_axis 11 = .ok (.invokestatic 91, 3) := by decide +kernel
theorem dX10_axis_14 : decode cX10_axis 14 = .ok (.ifCond .eq 6, 3) := by decide +kernel
theorem dX10_axis_17 : decode cX10_axis 17 = .ok (.ldc 95, 2) := by decide +kernel
theorem dX10_axis_19 : decode cX10_axis 19 = .ok (.ireturn, 1) := by decide +kernel
theorem dX10_axis_20 : decode cX10_axis 20 = .ok (.aload_n 0, 1) := by decide +kernel
theorem dX10_axis_21 : decode cX10_axis 21 = .ok (.iload_n 1, 1) := by decide +kernel
theorem dX10_axis_22 : decode cX10_axis 22 = .ok (.invokevirtual 159, 3) := by decide +kernel
theorem dX10_axis_25 : decode cX10_axis 25 = .ok (.astore_n 3, 1) := by decide +kernel
theorem dX10_axis_26 : decode cX10_axis 26 = .ok (.aload_n 3, 1) := by decide +kernel
theorem dX10_axis_27 : decode cX10_axis 27 = .ok (.ifnonnull 9, 3) := by decide +kernel
theorem dX10_axis_30 : decode cX10_axis 30 = .ok (.aload_n 0, 1) := by decide +kernel
theorem dX10_axis_31 : decode cX10_axis 31 = .ok (.iconst 1, 1) := by decide +kernel
theorem dX10_axis_32 : decode cX10_axis 32 = .ok (.invokevirtual 96, 3) := by decide +kernel
theorem dX10_axis_35 : decode cX10_axis 35 = .ok (.ireturn, 1) := by decide +kernel
theorem dX10_axis_36 : decode cX10_axis 36 = .ok (.aload_n 3, 1) := by decide +kernel
theorem dX10_axis_37 : decode cX10_axis 37 = .ok (.invokevirtual 201, 3) := by decide +kernel
theorem dX10_axis_40 : decode cX10_axis 40 = .ok (.ifCond .eq 6, 3) := by decide +kernel
theorem dX10_axis_43 : decode cX10_axis 43 = .ok (.ldc 204, 2) := by decide +kernel
theorem dX10_axis_45 : decode cX10_axis 45 = .ok (.ireturn, 1) := by decide +kernel
theorem dX10_axis_46 : decode cX10_axis 46 = .ok (.aload_n 0, 1) := by decide +kernel
theorem dX10_axis_47 : decode cX10_axis 47 = .ok (.aload_n 3, 1) := by decide +kernel
theorem dX10_axis_48 : decode cX10_axis 48 = .ok (.iload_n 2, 1) := by decide +kernel
theorem dX10_axis_49 : decode cX10_axis 49 = .ok (.invokestatic 286, 3) := by decide +kernel
theorem dX10_axis_52 : decode cX10_axis 52 = .ok (.invokevirtual 104, 3) := by decide +kernel
theorem dX10_axis_55 : decode cX10_axis 55 = .ok (.ireturn, 1) := by decide +kernel
theorem dX10_alike_0 : decode cX10_alike 0 = .ok (.iload_n 1, 1) := by decide +kernel
theorem dX10_alike_1 : decode cX10_alike 1 = .ok (.bipush 20, 2) := by decide +kernel
theorem dX10_alike_3 : decode cX10_alike 3 = .ok (.invokestatic 91, 3) := by decide +kernel
theorem dX10_alike_6 : decode cX10_alike 6 = .ok (.ifCond .ne 12, 3) := by decide +kernel
theorem dX10_alike_9 : decode cX10_alike 9 = .ok (.iload_n 2, 1) := by decide +kernel
theorem dX10_alike_10 : decode cX10_alike 10 = .ok (.bipush 20, 2) := by decide +kernel
theorem dX10_alike_12 : decode cX10_alike 12 = .ok (.invokestatic 91, 3) := by decide +kernel
theorem dX10_alike_15 : decode cX10_alike 15 = .ok (.ifCond .eq 6, 3) := by decide +kernel
theorem dX10_alike_18 : decode cX10_alike 18 = .ok (.ldc 95, 2) := by decide +kernel
theorem dX10_alike_20 : decode cX10_alike 20 = .ok (.ireturn, 1) := by decide +kernel
theorem dX10_alike_21 : decode cX10_alike 21 = .ok (.aload_n 0, 1) := by decide +kernel
theorem dX10_alike_22 : decode cX10_alike 22 = .ok (.iload_n 1, 1) := by decide +kernel
theorem dX10_alike_23 : decode cX10_alike 23 = .ok (.invokevirtual 159, 3) := by decide +kernel
theorem dX10_alike_26 : decode cX10_alike 26 = .ok (.astore_n 3, 1) := by decide +kernel
theorem dX10_alike_27 : decode cX10_alike 27 = .ok (.aload_n 0, 1) := by decide +kernel
theorem dX10_alike_28 : decode cX10_alike 28 = .ok (.iload_n 2, 1) := by decide +kernel
theorem dX10_alike_29 : decode cX10_alike 29 = .ok (.invokevirtual 159, 3) := by decide +kernel
theorem dX10_alike_32 : decode cX10_alike 32 = .ok (.astore 4, 2) := by decide +kernel
theorem dX10_alike_34 : decode cX10_alike 34 = .ok (.aload_n 3, 1) := by decide +kernel
theorem dX10_alike_35 : decode cX10_alike 35 = .ok (.ifnull 8, 3) := by decide +kernel
theorem dX10_alike_38 : decode cX10_alike 38 = .ok (.aload 4, 2) := by decide +kernel
theorem dX10_alike_40 : decode cX10_alike 40 = .ok (.ifnonnull 9, 3) := by decide +kernel
theorem dX10_alike_43 : decode cX10_alike 43 = .ok (.aload_n 0, 1) := by decide +kernel
theorem dX10_alike_44 : decode cX10_alike 44 = .ok (.iconst 1, 1) := by decide +kernel
theorem dX10_alike_45 : decode cX10_alike 45 = .ok (.invokevirtual 96, 3) := by decide +kernel
theorem dX10_alike_48 : decode cX10_alike 48 = .ok (.ireturn, 1) := by decide +kernel
theorem dX10_alike_49 : decode cX10_alike 49 = .ok (.aload_n 3, 1) := by decide +kernel
theorem dX10_alike_50 : decode cX10_alike 50 = .ok (.invokevirtual 201, 3) := by decide +kernel
theorem dX10_alike_53 : decode cX10_alike 53 = .ok (.ifCond .ne 11, 3) := by decide +kernel
theorem dX10_alike_56 : decode cX10_alike 56 = .ok (.aload 4, 2) := by decide +kernel
theorem dX10_alike_58 : decode cX10_alike 58 = .ok (.invokevirtual 201, 3) := by decide +kernel
theorem dX10_alike_61 : decode cX10_alike 61 = .ok (.ifCond .eq 6, 3) := by decide +kernel
theorem dX10_alike_64 : decode cX10_alike 64 = .ok (.ldc 204, 2) := by decide +kernel
theorem dX10_alike_66 : decode cX10_alike 66 = .ok (.ireturn, 1) := by decide +kernel
theorem dX10_alike_67 : decode cX10_alike 67 = .ok (.aload_n 0, 1) := by decide +kernel
theorem dX10_alike_68 : decode cX10_alike 68 = .ok (.aload_n 3, 1) := by decide +kernel
theorem dX10_alike_69 : decode cX10_alike 69 = .ok (.aload 4, 2) := by decide +kernel
theorem dX10_alike_71 : decode cX10_alike 71 = .ok (.invokevirtual 289, 3) := by decide +kernel
theorem dX10_alike_74 : decode cX10_alike 74 = .ok (.ifCond .eq 7, 3) := by decide +kernel
theorem dX10_alike_77 : decode cX10_alike 77 = .ok (.iconst 1, 1) := by decide +kernel
theorem dX10_alike_78 : decode cX10_alike 78 = .ok (.goto 4, 3) := by decide +kernel
theorem dX10_alike_81 : decode cX10_alike 81 = .ok (.iconst 0, 1) := by decide +kernel
theorem dX10_alike_82 : decode cX10_alike 82 = .ok (.invokevirtual 104, 3) := by decide +kernel
theorem dX10_alike_85 : decode cX10_alike 85 = .ok (.ireturn, 1) := by decide +kernel
theorem dX10_index_0 : decode cX10_index 0 = .ok (.iload_n 1, 1) := by decide +kernel
theorem dX10_index_1 : decode cX10_index 1 = .ok (.bipush 20, 2) := by decide +kernel
theorem dX10_index_3 : decode cX10_index 3 = .ok (.invokestatic 91, 3) := by decide +kernel
theorem dX10_index_6 : decode cX10_index 6 = .ok (.ifCond .eq 6, 3) := by decide +kernel
theorem dX10_index_9 : decode cX10_index 9 = .ok (.ldc 95, 2) := by decide +kernel
theorem dX10_index_11 : decode cX10_index 11 = .ok (.ireturn, 1) := by decide +kernel
theorem dX10_index_12 : decode cX10_index 12 = .ok (.aload_n 0, 1) := by decide +kernel
theorem dX10_index_13 : decode cX10_index 13 = .ok (.iload_n 1, 1) := by decide +kernel
theorem dX10_index_14 : decode cX10_index 14 = .ok (.invokevirtual 159, 3) := by decide +kernel
theorem dX10_index_17 : decode cX10_index 17 = .ok (.astore_n 2, 1) := by decide +kernel
theorem dX10_index_18 : decode cX10_index 18 = .ok (.aload_n 2, 1) := by decide +kernel
theorem dX10_index_19 : decode cX10_index 19 = .ok (.ifnonnull 9, 3) := by decide +kernel
theorem dX10_index_22 : decode cX10_index 22 = .ok (.aload_n 0, 1) := by decide +kernel
theorem dX10_index_23 : decode cX10_index 23 = .ok (.iconst 1, 1) := by decide +kernel
theorem dX10_index_24 : decode cX10_index 24 = .ok (.invokevirtual 96, 3) := by decide +kernel
theorem dX10_index_27 : decode cX10_index 27 = .ok (.ireturn, 1) := by decide +kernel
theorem dX10_index_28 : decode cX10_index 28 = .ok (.aload_n 2, 1) := by decide +kernel
theorem dX10_index_29 : decode cX10_index 29 = .ok (.invokevirtual 201, 3) := by decide +kernel
theorem dX10_index_32 : decode cX10_index 32 = .ok (.ifCond .eq 6, 3) := by decide +kernel
theorem dX10_index_35 : decode cX10_index 35 = .ok (.ldc 204, 2) := by decide +kernel
theorem dX10_index_37 : decode cX10_index 37 = .ok (.ireturn, 1) := by decide +kernel
theorem dX10_index_38 : decode cX10_index 38 = .ok (.aload_n 0, 1) := by decide +kernel
theorem dX10_index_39 : decode cX10_index 39 = .ok (.aload_n 2, 1) := by decide +kernel
theorem dX10_index_40 : decode cX10_index 40 = .ok (.invokevirtual 293, 3) := by decide +kernel
theorem dX10_index_43 : decode cX10_index 43 = .ok (.l2i, 1) := by decide +kernel
theorem dX10_index_44 : decode cX10_index 44 = .ok (.invokevirtual 104, 3) := by decide +kernel
theorem dX10_index_47 : decode cX10_index 47 = .ok (.ireturn, 1) := by decide +kernel
theorem dX10_cell_0 : decode cX10_cell 0 = .ok (.iload_n 1, 1) := by decide +kernel
theorem dX10_cell_1 : decode cX10_cell 1 = .ok (.bipush 20, 2) := by decide +kernel
theorem dX10_cell_3 : decode cX10_cell 3 = .ok (.invokestatic 91, 3) := by decide +kernel
theorem dX10_cell_6 : decode cX10_cell 6 = .ok (.ifCond .ne 12, 3) := by decide +kernel
theorem dX10_cell_9 : decode cX10_cell 9 = .ok (.iload_n 2, 1) := by decide +kernel
theorem dX10_cell_10 : decode cX10_cell 10 = .ok (.bipush 6, 2) := by decide +kernel
theorem dX10_cell_12 : decode cX10_cell 12 = .ok (.invokestatic 91, 3) := by decide +kernel
theorem dX10_cell_15 : decode cX10_cell 15 = .ok (.ifCond .eq 6, 3) := by decide +kernel
theorem dX10_cell_18 : decode cX10_cell 18 = .ok (.ldc 95, 2) := by decide +kernel
theorem dX10_cell_20 : decode cX10_cell 20 = .ok (.ireturn, 1) := by decide +kernel
theorem dX10_cell_21 : decode cX10_cell 21 = .ok (.aload_n 0, 1) := by decide +kernel
theorem dX10_cell_22 : decode cX10_cell 22 = .ok (.iload_n 1, 1) := by decide +kernel
theorem dX10_cell_23 : decode cX10_cell 23 = .ok (.invokevirtual 159, 3) := by decide +kernel
theorem dX10_cell_26 : decode cX10_cell 26 = .ok (.astore_n 3, 1) := by decide +kernel
theorem dX10_cell_27 : decode cX10_cell 27 = .ok (.aload_n 3, 1) := by decide +kernel
theorem dX10_cell_28 : decode cX10_cell 28 = .ok (.ifnonnull 9, 3) := by decide +kernel
theorem dX10_cell_31 : decode cX10_cell 31 = .ok (.aload_n 0, 1) := by decide +kernel
theorem dX10_cell_32 : decode cX10_cell 32 = .ok (.iconst 1, 1) := by decide +kernel
theorem dX10_cell_33 : decode cX10_cell 33 = .ok (.invokevirtual 96, 3) := by decide +kernel
theorem dX10_cell_36 : decode cX10_cell 36 = .ok (.ireturn, 1) := by decide +kernel
theorem dX10_cell_37 : decode cX10_cell 37 = .ok (.aload_n 3, 1) := by decide +kernel
theorem dX10_cell_38 : decode cX10_cell 38 = .ok (.invokevirtual 201, 3) := by decide +kernel
theorem dX10_cell_41 : decode cX10_cell 41 = .ok (.ifCond .eq 6, 3) := by decide +kernel
theorem dX10_cell_44 : decode cX10_cell 44 = .ok (.ldc 204, 2) := by decide +kernel
theorem dX10_cell_46 : decode cX10_cell 46 = .ok (.ireturn, 1) := by decide +kernel
theorem dX10_cell_47 : decode cX10_cell 47 = .ok (.aload_n 3, 1) := by decide +kernel
theorem dX10_cell_48 : decode cX10_cell 48 = .ok (.invokevirtual 293, 3) := by decide +kernel
theorem dX10_cell_51 : decode cX10_cell 51 = .ok (.ldc2_w 296, 3) := by decide +kernel
theorem dX10_cell_54 : decode cX10_cell 54 = .ok (.lcmp, 1) := by decide +kernel
theorem dX10_cell_55 : decode cX10_cell 55 = .ok (.ifCond .le 6, 3) := by decide +kernel
theorem dX10_cell_58 : decode cX10_cell 58 = .ok (.ldc 154, 2) := by decide +kernel
theorem dX10_cell_60 : decode cX10_cell 60 = .ok (.ireturn, 1) := by decide +kernel
theorem dX10_cell_61 : decode cX10_cell 61 = .ok (.aload_n 0, 1) := by decide +kernel
theorem dX10_cell_62 : decode cX10_cell 62 = .ok (.getfield 76, 3) := by decide +kernel
theorem dX10_cell_65 : decode cX10_cell 65 = .ok (.aload_n 3, 1) := by decide +kernel
