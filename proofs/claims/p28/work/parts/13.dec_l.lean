theorem dL_cell_0 : decode cL_cell 0 = .ok (.iload_n 1, 1) := by decide +kernel
theorem dL_cell_1 : decode cL_cell 1 = .ok (.aload_n 0, 1) := by decide +kernel
theorem dL_cell_2 : decode cL_cell 2 = .ok (.arraylength, 1) := by decide +kernel
theorem dL_cell_3 : decode cL_cell 3 = .ok (.if_icmp .ge 9, 3) := by decide +kernel
theorem dL_cell_6 : decode cL_cell 6 = .ok (.aload_n 0, 1) := by decide +kernel
theorem dL_cell_7 : decode cL_cell 7 = .ok (.iload_n 1, 1) := by decide +kernel
theorem dL_cell_8 : decode cL_cell 8 = .ok (.iaload, 1) := by decide +kernel
theorem dL_cell_9 : decode cL_cell 9 = .ok (.goto 9, 3) := by decide +kernel
theorem dL_cell_12 : decode cL_cell 12 = .ok (.ldc 7, 2) := by decide +kernel
theorem dL_cell_14 : decode cL_cell 14 = .ok (.iload_n 1, 1) := by decide +kernel
theorem dL_cell_15 : decode cL_cell 15 = .ok (.iconst 3, 1) := by decide +kernel
theorem dL_cell_16 : decode cL_cell 16 = .ok (.iadd, 1) := by decide +kernel
theorem dL_cell_17 : decode cL_cell 17 = .ok (.imul, 1) := by decide +kernel
theorem dL_cell_18 : decode cL_cell 18 = .ok (.istore_n 2, 1) := by decide +kernel
theorem dL_cell_19 : decode cL_cell 19 = .ok (.iload_n 2, 1) := by decide +kernel
theorem dL_cell_20 : decode cL_cell 20 = .ok (.iload_n 2, 1) := by decide +kernel
theorem dL_cell_21 : decode cL_cell 21 = .ok (.bipush 15, 2) := by decide +kernel
theorem dL_cell_23 : decode cL_cell 23 = .ok (.iushr, 1) := by decide +kernel
theorem dL_cell_24 : decode cL_cell 24 = .ok (.ixor, 1) := by decide +kernel
theorem dL_cell_25 : decode cL_cell 25 = .ok (.ireturn, 1) := by decide +kernel
theorem dL_low_0 : decode cL_low 0 = .ok (.iload_n 0, 1) := by decide +kernel
theorem dL_low_1 : decode cL_low 1 = .ok (.ldc 8, 2) := by decide +kernel
theorem dL_low_3 : decode cL_low 3 = .ok (.iand, 1) := by decide +kernel
theorem dL_low_4 : decode cL_low 4 = .ok (.iload_n 1, 1) := by decide +kernel
theorem dL_low_5 : decode cL_low 5 = .ok (.irem, 1) := by decide +kernel
theorem dL_low_6 : decode cL_low 6 = .ok (.ireturn, 1) := by decide +kernel
theorem dL_print_0 : decode cL_print 0 = .ok (.ldc2_w 9, 3) := by decide +kernel
theorem dL_print_3 : decode cL_print 3 = .ok (.lstore_n 1, 1) := by decide +kernel
theorem dL_print_4 : decode cL_print 4 = .ok (.iconst 0, 1) := by decide +kernel
theorem dL_print_5 : decode cL_print 5 = .ok (.istore_n 3, 1) := by decide +kernel
theorem dL_print_6 : decode cL_print 6 = .ok (.iload_n 3, 1) := by decide +kernel
theorem dL_print_7 : decode cL_print 7 = .ok (.bipush 25, 2) := by decide +kernel
theorem dL_print_9 : decode cL_print 9 = .ok (.if_icmp .ge 52, 3) := by decide +kernel
theorem dL_print_12 : decode cL_print 12 = .ok (.ldc2_w 11, 3) := by decide +kernel
theorem dL_print_15 : decode cL_print 15 = .ok (.ldc2_w 11, 3) := by decide +kernel
theorem dL_print_18 : decode cL_print 18 = .ok (.lload_n 1, 1) := by decide +kernel
theorem dL_print_19 : decode cL_print 19 = .ok (.lmul, 1) := by decide +kernel
theorem dL_print_20 : decode cL_print 20 = .ok (.iload_n 3, 1) := by decide +kernel
theorem dL_print_21 : decode cL_print 21 = .ok (.bipush 9, 2) := by decide +kernel
theorem dL_print_23 : decode cL_print 23 = .ok (.if_icmp .eq 9, 3) := by decide +kernel
theorem dL_print_26 : decode cL_print 26 = .ok (.iload_n 3, 1) := by decide +kernel
theorem dL_print_27 : decode cL_print 27 = .ok (.bipush 10, 2) := by decide +kernel
theorem dL_print_29 : decode cL_print 29 = .ok (.if_icmp .ne 7, 3) := by decide +kernel
theorem dL_print_32 : decode cL_print 32 = .ok (.iconst 0, 1) := by decide +kernel
theorem dL_print_33 : decode cL_print 33 = .ok (.goto 8, 3) := by decide +kernel
theorem dL_print_36 : decode cL_print 36 = .ok (.aload_n 0, 1) := by decide +kernel
theorem dL_print_37 : decode cL_print 37 = .ok (.iload_n 3, 1) := by decide +kernel
theorem dL_print_38 : decode cL_print 38 = .ok (.invokevirtual 13, 3) := by decide +kernel
theorem dL_print_41 : decode cL_print 41 = .ok (.i2l, 1) := by decide +kernel
theorem dL_print_42 : decode cL_print 42 = .ok (.ladd, 1) := by decide +kernel
theorem dL_print_43 : decode cL_print 43 = .ok (.lmul, 1) := by decide +kernel
theorem dL_print_44 : decode cL_print 44 = .ok (.aload_n 0, 1) := by decide +kernel
theorem dL_print_45 : decode cL_print 45 = .ok (.iload_n 3, 1) := by decide +kernel
theorem dL_print_46 : decode cL_print 46 = .ok (.bipush 6, 2) := by decide +kernel
theorem dL_print_48 : decode cL_print 48 = .ok (.irem, 1) := by decide +kernel
theorem dL_print_49 : decode cL_print 49 = .ok (.invokevirtual 19, 3) := by decide +kernel
theorem dL_print_52 : decode cL_print 52 = .ok (.i2l, 1) := by decide +kernel
theorem dL_print_53 : decode cL_print 53 = .ok (.ladd, 1) := by decide +kernel
theorem dL_print_54 : decode cL_print 54 = .ok (.lstore_n 1, 1) := by decide +kernel
theorem dL_print_55 : decode cL_print 55 = .ok (.iinc 3 1, 3) := by decide +kernel
theorem dL_print_58 : decode cL_print 58 = .ok (.goto (-52), 3) := by decide +kernel
theorem dL_print_61 : decode cL_print 61 = .ok (.iconst 0, 1) := by decide +kernel
theorem dL_print_62 : decode cL_print 62 = .ok (.istore_n 3, 1) := by decide +kernel
theorem dL_print_63 : decode cL_print 63 = .ok (.iload_n 3, 1) := by decide +kernel
theorem dL_print_64 : decode cL_print 64 = .ok (.bipush 10, 2) := by decide +kernel
theorem dL_print_66 : decode cL_print 66 = .ok (.if_icmp .ge 40, 3) := by decide +kernel
theorem dL_print_69 : decode cL_print 69 = .ok (.iconst 0, 1) := by decide +kernel
theorem dL_print_70 : decode cL_print 70 = .ok (.istore 4, 2) := by decide +kernel
theorem dL_print_72 : decode cL_print 72 = .ok (.iload 4, 2) := by decide +kernel
theorem dL_print_74 : decode cL_print 74 = .ok (.bipush 6, 2) := by decide +kernel
theorem dL_print_76 : decode cL_print 76 = .ok (.if_icmp .ge 24, 3) := by decide +kernel
theorem dL_print_79 : decode cL_print 79 = .ok (.ldc2_w 11, 3) := by decide +kernel
theorem dL_print_82 : decode cL_print 82 = .ok (.lload_n 1, 1) := by decide +kernel
theorem dL_print_83 : decode cL_print 83 = .ok (.lmul, 1) := by decide +kernel
theorem dL_print_84 : decode cL_print 84 = .ok (.aload_n 0, 1) := by decide +kernel
theorem dL_print_85 : decode cL_print 85 = .ok (.iload_n 3, 1) := by decide +kernel
theorem dL_print_86 : decode cL_print 86 = .ok (.iload 4, 2) := by decide +kernel
theorem dL_print_88 : decode cL_print 88 = .ok (.invokevirtual 22, 3) := by decide +kernel
theorem dL_print_91 : decode cL_print 91 = .ok (.i2l, 1) := by decide +kernel
theorem dL_print_92 : decode cL_print 92 = .ok (.ladd, 1) := by decide +kernel
theorem dL_print_93 : decode cL_print 93 = .ok (.lstore_n 1, 1) := by decide +kernel
theorem dL_print_94 : decode cL_print 94 = .ok (.iinc 4 1, 3) := by decide +kernel
theorem dL_print_97 : decode cL_print 97 = .ok (.goto (-25), 3) := by decide +kernel
theorem dL_print_100 : decode cL_print 100 = .ok (.iinc 3 1, 3) := by decide +kernel
theorem dL_print_103 : decode cL_print 103 = .ok (.goto (-40), 3) := by decide +kernel
theorem dL_print_106 : decode cL_print 106 = .ok (.iconst 0, 1) := by decide +kernel
theorem dL_print_107 : decode cL_print 107 = .ok (.istore_n 3, 1) := by decide +kernel
theorem dL_print_108 : decode cL_print 108 = .ok (.iload_n 3, 1) := by decide +kernel
theorem dL_print_109 : decode cL_print 109 = .ok (.bipush 20, 2) := by decide +kernel
theorem dL_print_111 : decode cL_print 111 = .ok (.if_icmp .ge 37, 3) := by decide +kernel
theorem dL_print_114 : decode cL_print 114 = .ok (.ldc2_w 11, 3) := by decide +kernel
theorem dL_print_117 : decode cL_print 117 = .ok (.ldc2_w 11, 3) := by decide +kernel
theorem dL_print_120 : decode cL_print 120 = .ok (.lload_n 1, 1) := by decide +kernel
theorem dL_print_121 : decode cL_print 121 = .ok (.lmul, 1) := by decide +kernel
theorem dL_print_122 : decode cL_print 122 = .ok (.aload_n 0, 1) := by decide +kernel
theorem dL_print_123 : decode cL_print 123 = .ok (.iload_n 3, 1) := by decide +kernel
theorem dL_print_124 : decode cL_print 124 = .ok (.invokevirtual 26, 3) := by decide +kernel
theorem dL_print_127 : decode cL_print 127 = .ok (.i2l, 1) := by decide +kernel
theorem dL_print_128 : decode cL_print 128 = .ok (.ladd, 1) := by decide +kernel
theorem dL_print_129 : decode cL_print 129 = .ok (.lmul, 1) := by decide +kernel
theorem dL_print_130 : decode cL_print 130 = .ok (.aload_n 0, 1) := by decide +kernel
theorem dL_print_131 : decode cL_print 131 = .ok (.aload_n 0, 1) := by decide +kernel
theorem dL_print_132 : decode cL_print 132 = .ok (.iload_n 3, 1) := by decide +kernel
theorem dL_print_133 : decode cL_print 133 = .ok (.invokevirtual 26, 3) := by decide +kernel
theorem dL_print_136 : decode cL_print 136 = .ok (.invokevirtual 29, 3) := by decide +kernel
theorem dL_print_139 : decode cL_print 139 = .ok (.i2l, 1) := by decide +kernel
theorem dL_print_140 : decode cL_print 140 = .ok (.ladd, 1) := by decide +kernel
theorem dL_print_141 : decode cL_print 141 = .ok (.lstore_n 1, 1) := by decide +kernel
theorem dL_print_142 : decode cL_print 142 = .ok (.iinc 3 1, 3) := by decide +kernel
theorem dL_print_145 : decode cL_print 145 = .ok (.goto (-37), 3) := by decide +kernel
theorem dL_print_148 : decode cL_print 148 = .ok (.iconst 0, 1) := by decide +kernel
theorem dL_print_149 : decode cL_print 149 = .ok (.istore_n 3, 1) := by decide +kernel
theorem dL_print_150 : decode cL_print 150 = .ok (.iload_n 3, 1) := by decide +kernel
theorem dL_print_151 : decode cL_print 151 = .ok (.bipush 30, 2) := by decide +kernel
theorem dL_print_153 : decode cL_print 153 = .ok (.if_icmp .ge 40, 3) := by decide +kernel
theorem dL_print_156 : decode cL_print 156 = .ok (.iconst 0, 1) := by decide +kernel
theorem dL_print_157 : decode cL_print 157 = .ok (.istore 4, 2) := by decide +kernel
theorem dL_print_159 : decode cL_print 159 = .ok (.iload 4, 2) := by decide +kernel
theorem dL_print_161 : decode cL_print 161 = .ok (.bipush 7, 2) := by decide +kernel
theorem dL_print_163 : decode cL_print 163 = .ok (.if_icmp .ge 24, 3) := by decide +kernel
theorem dL_print_166 : decode cL_print 166 = .ok (.ldc2_w 11, 3) := by decide +kernel
theorem dL_print_169 : decode cL_print 169 = .ok (.lload_n 1, 1) := by decide +kernel
theorem dL_print_170 : decode cL_print 170 = .ok (.lmul, 1) := by decide +kernel
theorem dL_print_171 : decode cL_print 171 = .ok (.aload_n 0, 1) := by decide +kernel
theorem dL_print_172 : decode cL_print 172 = .ok (.iload_n 3, 1) := by decide +kernel
theorem dL_print_173 : decode cL_print 173 = .ok (.iload 4, 2) := by decide +kernel
theorem dL_print_175 : decode cL_print 175 = .ok (.invokevirtual 32, 3) := by decide +kernel
theorem dL_print_178 : decode cL_print 178 = .ok (.i2l, 1) := by decide +kernel
theorem dL_print_179 : decode cL_print 179 = .ok (.ladd, 1) := by decide +kernel
theorem dL_print_180 : decode cL_print 180 = .ok (.lstore_n 1, 1) := by decide +kernel
theorem dL_print_181 : decode cL_print 181 = .ok (.iinc 4 1, 3) := by decide +kernel
theorem dL_print_184 : decode cL_print 184 = .ok (.goto (-25), 3) := by decide +kernel
theorem dL_print_187 : decode cL_print 187 = .ok (.iinc 3 1, 3) := by decide +kernel
theorem dL_print_190 : decode cL_print 190 = .ok (.goto (-40), 3) := by decide +kernel
theorem dL_print_193 : decode cL_print 193 = .ok (.iconst 1, 1) := by decide +kernel
theorem dL_print_194 : decode cL_print 194 = .ok (.istore_n 3, 1) := by decide +kernel
theorem dL_print_195 : decode cL_print 195 = .ok (.iload_n 3, 1) := by decide +kernel
theorem dL_print_196 : decode cL_print 196 = .ok (.bipush 13, 2) := by decide +kernel
theorem dL_print_198 : decode cL_print 198 = .ok (.if_icmp .ge 48, 3) := by decide +kernel
theorem dL_print_201 : decode cL_print 201 = .ok (.ldc2_w 11, 3) := by decide +kernel
theorem dL_print_204 : decode cL_print 204 = .ok (.ldc2_w 11, 3) := by decide +kernel
theorem dL_print_207 : decode cL_print 207 = .ok (.ldc2_w 11, 3) := by decide +kernel
theorem dL_print_210 : decode cL_print 210 = .ok (.lload_n 1, 1) := by decide +kernel
theorem dL_print_211 : decode cL_print 211 = .ok (.lmul, 1) := by decide +kernel
theorem dL_print_212 : decode cL_print 212 = .ok (.aload_n 0, 1) := by decide +kernel
theorem dL_print_213 : decode cL_print 213 = .ok (.iload_n 3, 1) := by decide +kernel
theorem dL_print_214 : decode cL_print 214 = .ok (.invokevirtual 35, 3) := by decide +kernel
theorem dL_print_217 : decode cL_print 217 = .ok (.i2l, 1) := by decide +kernel
theorem dL_print_218 : decode cL_print 218 = .ok (.ladd, 1) := by decide +kernel
theorem dL_print_219 : decode cL_print 219 = .ok (.lmul, 1) := by decide +kernel
theorem dL_print_220 : decode cL_print 220 = .ok (.aload_n 0, 1) := by decide +kernel
theorem dL_print_221 : decode cL_print 221 = .ok (.iload_n 3, 1) := by decide +kernel
theorem dL_print_222 : decode cL_print 222 = .ok (.iconst 0, 1) := by decide +kernel
theorem dL_print_223 : decode cL_print 223 = .ok (.iconst 0, 1) := by decide +kernel
theorem dL_print_224 : decode cL_print 224 = .ok (.invokevirtual 38, 3) := by decide +kernel
theorem dL_print_227 : decode cL_print 227 = .ok (.i2l, 1) := by decide +kernel
theorem dL_print_228 : decode cL_print 228 = .ok (.ladd, 1) := by decide +kernel
theorem dL_print_229 : decode cL_print 229 = .ok (.lmul, 1) := by decide +kernel
theorem dL_print_230 : decode cL_print 230 = .ok (.aload_n 0, 1) := by decide +kernel
theorem dL_print_231 : decode cL_print 231 = .ok (.iload_n 3, 1) := by decide +kernel
theorem dL_print_232 : decode cL_print 232 = .ok (.iconst 1, 1) := by decide +kernel
theorem dL_print_233 : decode cL_print 233 = .ok (.iconst 2, 1) := by decide +kernel
theorem dL_print_234 : decode cL_print 234 = .ok (.invokevirtual 38, 3) := by decide +kernel
theorem dL_print_237 : decode cL_print 237 = .ok (.i2l, 1) := by decide +kernel
theorem dL_print_238 : decode cL_print 238 = .ok (.ladd, 1) := by decide +kernel
theorem dL_print_239 : decode cL_print 239 = .ok (.lstore_n 1, 1) := by decide +kernel
theorem dL_print_240 : decode cL_print 240 = .ok (.iinc 3 1, 3) := by decide +kernel
theorem dL_print_243 : decode cL_print 243 = .ok (.goto (-48), 3) := by decide +kernel
theorem dL_print_246 : decode cL_print 246 = .ok (.ldc2_w 11, 3) := by decide +kernel
theorem dL_print_249 : decode cL_print 249 = .ok (.lload_n 1, 1) := by decide +kernel
theorem dL_print_250 : decode cL_print 250 = .ok (.lmul, 1) := by decide +kernel
theorem dL_print_251 : decode cL_print 251 = .ok (.aload_n 0, 1) := by decide +kernel
theorem dL_print_252 : decode cL_print 252 = .ok (.invokevirtual 42, 3) := by decide +kernel
theorem dL_print_255 : decode cL_print 255 = .ok (.i2l, 1) := by decide +kernel
theorem dL_print_256 : decode cL_print 256 = .ok (.ladd, 1) := by decide +kernel
theorem dL_print_257 : decode cL_print 257 = .ok (.lreturn, 1) := by decide +kernel
theorem dL_refused_0 : decode cL_refused 0 = .ok (.aload_n 0, 1) := by decide +kernel
theorem dL_refused_1 : decode cL_refused 1 = .ok (.invokestatic 46, 3) := by decide +kernel
theorem dL_refused_4 : decode cL_refused 4 = .ok (.lstore_n 1, 1) := by decide +kernel
theorem dL_refused_5 : decode cL_refused 5 = .ok (.aload_n 0, 1) := by decide +kernel
theorem dL_refused_6 : decode cL_refused 6 = .ok (.bipush 9, 2) := by decide +kernel
theorem dL_refused_8 : decode cL_refused 8 = .ok (.invokevirtual 13, 3) := by decide +kernel
theorem dL_refused_11 : decode cL_refused 11 = .ok (.istore_n 3, 1) := by decide +kernel
theorem dL_refused_12 : decode cL_refused 12 = .ok (.aload_n 0, 1) := by decide +kernel
theorem dL_refused_13 : decode cL_refused 13 = .ok (.iconst 0, 1) := by decide +kernel
theorem dL_refused_14 : decode cL_refused 14 = .ok (.invokevirtual 13, 3) := by decide +kernel
theorem dL_refused_17 : decode cL_refused 17 = .ok (.istore 4, 2) := by decide +kernel
theorem dL_refused_19 : decode cL_refused 19 = .ok (.aload_n 0, 1) := by decide +kernel
theorem dL_refused_20 : decode cL_refused 20 = .ok (.bipush 6, 2) := by decide +kernel
theorem dL_refused_22 : decode cL_refused 22 = .ok (.invokevirtual 13, 3) := by decide +kernel
theorem dL_refused_25 : decode cL_refused 25 = .ok (.istore 5, 2) := by decide +kernel
theorem dL_refused_27 : decode cL_refused 27 = .ok (.aload_n 0, 1) := by decide +kernel
theorem dL_refused_28 : decode cL_refused 28 = .ok (.iconst (-1), 1) := by decide +kernel
theorem dL_refused_29 : decode cL_refused 29 = .ok (.invokevirtual 52, 3) := by decide +kernel
theorem dL_refused_32 : decode cL_refused 32 = .ok (.iconst (-1), 1) := by decide +kernel
theorem dL_refused_33 : decode cL_refused 33 = .ok (.if_icmp .ne 164, 3) := by decide +kernel
theorem dL_refused_36 : decode cL_refused 36 = .ok (.aload_n 0, 1) := by decide +kernel
theorem dL_refused_37 : decode cL_refused 37 = .ok (.bipush 100, 2) := by decide +kernel
theorem dL_refused_39 : decode cL_refused 39 = .ok (.iconst 5, 1) := by decide +kernel
theorem dL_refused_40 : decode cL_refused 40 = .ok (.invokevirtual 55, 3) := by decide +kernel
theorem dL_refused_43 : decode cL_refused 43 = .ok (.iconst (-1), 1) := by decide +kernel
theorem dL_refused_44 : decode cL_refused 44 = .ok (.if_icmp .ne 153, 3) := by decide +kernel
theorem dL_refused_47 : decode cL_refused 47 = .ok (.aload_n 0, 1) := by decide +kernel
theorem dL_refused_48 : decode cL_refused 48 = .ok (.iconst 5, 1) := by decide +kernel
theorem dL_refused_49 : decode cL_refused 49 = .ok (.iconst (-1), 1) := by decide +kernel
theorem dL_refused_50 : decode cL_refused 50 = .ok (.invokevirtual 55, 3) := by decide +kernel
theorem dL_refused_53 : decode cL_refused 53 = .ok (.iconst (-1), 1) := by decide +kernel
theorem dL_refused_54 : decode cL_refused 54 = .ok (.if_icmp .ne 143, 3) := by decide +kernel
theorem dL_refused_57 : decode cL_refused 57 = .ok (.aload_n 0, 1) := by decide +kernel
theorem dL_refused_58 : decode cL_refused 58 = .ok (.iconst 5, 1) := by decide +kernel
theorem dL_refused_59 : decode cL_refused 59 = .ok (.iconst 1, 1) := by decide +kernel
theorem dL_refused_60 : decode cL_refused 60 = .ok (.invokevirtual 58, 3) := by decide +kernel
theorem dL_refused_63 : decode cL_refused 63 = .ok (.iconst (-1), 1) := by decide +kernel
theorem dL_refused_64 : decode cL_refused 64 = .ok (.if_icmp .ne 133, 3) := by decide +kernel
theorem dL_refused_67 : decode cL_refused 67 = .ok (.aload_n 0, 1) := by decide +kernel
theorem dL_refused_68 : decode cL_refused 68 = .ok (.iconst 0, 1) := by decide +kernel
theorem dL_refused_69 : decode cL_refused 69 = .ok (.bipush 101, 2) := by decide +kernel
theorem dL_refused_71 : decode cL_refused 71 = .ok (.invokevirtual 58, 3) := by decide +kernel
theorem dL_refused_74 : decode cL_refused 74 = .ok (.iconst (-1), 1) := by decide +kernel
theorem dL_refused_75 : decode cL_refused 75 = .ok (.if_icmp .ne 122, 3) := by decide +kernel
theorem dL_refused_78 : decode cL_refused 78 = .ok (.aload_n 0, 1) := by decide +kernel
theorem dL_refused_79 : decode cL_refused 79 = .ok (.iload 4, 2) := by decide +kernel
theorem dL_refused_81 : decode cL_refused 81 = .ok (.iconst 0, 1) := by decide +kernel
theorem dL_refused_82 : decode cL_refused 82 = .ok (.invokevirtual 22, 3) := by decide +kernel
theorem dL_refused_85 : decode cL_refused 85 = .ok (.iconst (-1), 1) := by decide +kernel
theorem dL_refused_86 : decode cL_refused 86 = .ok (.if_icmp .ne 111, 3) := by decide +kernel
theorem dL_refused_89 : decode cL_refused 89 = .ok (.aload_n 0, 1) := by decide +kernel
theorem dL_refused_90 : decode cL_refused 90 = .ok (.bipush (-5), 2) := by decide +kernel
theorem dL_refused_92 : decode cL_refused 92 = .ok (.invokevirtual 29, 3) := by decide +kernel
theorem dL_refused_95 : decode cL_refused 95 = .ok (.iconst (-1), 1) := by decide +kernel
theorem dL_refused_96 : decode cL_refused 96 = .ok (.if_icmp .ne 101, 3) := by decide +kernel
theorem dL_refused_99 : decode cL_refused 99 = .ok (.aload_n 0, 1) := by decide +kernel
theorem dL_refused_100 : decode cL_refused 100 = .ok (.iconst 0, 1) := by decide +kernel
theorem dL_refused_101 : decode cL_refused 101 = .ok (.iconst 1, 1) := by decide +kernel
theorem dL_refused_102 : decode cL_refused 102 = .ok (.invokevirtual 61, 3) := by decide +kernel
theorem dL_refused_105 : decode cL_refused 105 = .ok (.iconst (-1), 1) := by decide +kernel
theorem dL_refused_106 : decode cL_refused 106 = .ok (.if_icmp .ne 91, 3) := by decide +kernel
theorem dL_refused_109 : decode cL_refused 109 = .ok (.aload_n 0, 1) := by decide +kernel
theorem dL_refused_110 : decode cL_refused 110 = .ok (.bipush (-2), 2) := by decide +kernel
theorem dL_refused_112 : decode cL_refused 112 = .ok (.invokevirtual 26, 3) := by decide +kernel
theorem dL_refused_115 : decode cL_refused 115 = .ok (.iconst (-1), 1) := by decide +kernel
theorem dL_refused_116 : decode cL_refused 116 = .ok (.if_icmp .ne 81, 3) := by decide +kernel
theorem dL_refused_119 : decode cL_refused 119 = .ok (.aload_n 0, 1) := by decide +kernel
theorem dL_refused_120 : decode cL_refused 120 = .ok (.bipush 20, 2) := by decide +kernel
theorem dL_refused_122 : decode cL_refused 122 = .ok (.invokevirtual 26, 3) := by decide +kernel
theorem dL_refused_125 : decode cL_refused 125 = .ok (.bipush (-4), 2) := by decide +kernel
theorem dL_refused_127 : decode cL_refused 127 = .ok (.if_icmp .ne 70, 3) := by decide +kernel
theorem dL_refused_130 : decode cL_refused 130 = .ok (.aload_n 0, 1) := by decide +kernel
theorem dL_refused_131 : decode cL_refused 131 = .ok (.bipush 26, 2) := by decide +kernel
theorem dL_refused_133 : decode cL_refused 133 = .ok (.invokevirtual 13, 3) := by decide +kernel
theorem dL_refused_136 : decode cL_refused 136 = .ok (.iconst (-1), 1) := by decide +kernel
theorem dL_refused_137 : decode cL_refused 137 = .ok (.if_icmp .ne 60, 3) := by decide +kernel
theorem dL_refused_140 : decode cL_refused 140 = .ok (.aload_n 0, 1) := by decide +kernel
theorem dL_refused_141 : decode cL_refused 141 = .ok (.iload 4, 2) := by decide +kernel
theorem dL_refused_143 : decode cL_refused 143 = .ok (.iconst 0, 1) := by decide +kernel
theorem dL_refused_144 : decode cL_refused 144 = .ok (.invokevirtual 64, 3) := by decide +kernel
theorem dL_refused_147 : decode cL_refused 147 = .ok (.iconst (-1), 1) := by decide +kernel
theorem dL_refused_148 : decode cL_refused 148 = .ok (.if_icmp .ne 49, 3) := by decide +kernel
theorem dL_refused_151 : decode cL_refused 151 = .ok (.aload_n 0, 1) := by decide +kernel
theorem dL_refused_152 : decode cL_refused 152 = .ok (.iconst (-1), 1) := by decide +kernel
theorem dL_refused_153 : decode cL_refused 153 = .ok (.invokevirtual 67, 3) := by decide +kernel
theorem dL_refused_156 : decode cL_refused 156 = .ok (.iconst (-1), 1) := by decide +kernel
theorem dL_refused_157 : decode cL_refused 157 = .ok (.if_icmp .ne 40, 3) := by decide +kernel
theorem dL_refused_160 : decode cL_refused 160 = .ok (.aload_n 0, 1) := by decide +kernel
theorem dL_refused_161 : decode cL_refused 161 = .ok (.iconst (-1), 1) := by decide +kernel
theorem dL_refused_162 : decode cL_refused 162 = .ok (.invokevirtual 19, 3) := by decide +kernel
theorem dL_refused_165 : decode cL_refused 165 = .ok (.iconst (-1), 1) := by decide +kernel
theorem dL_refused_166 : decode cL_refused 166 = .ok (.if_icmp .ne 31, 3) := by decide +kernel
theorem dL_refused_169 : decode cL_refused 169 = .ok (.aload_n 0, 1) := by decide +kernel
theorem dL_refused_170 : decode cL_refused 170 = .ok (.iload 4, 2) := by decide +kernel
theorem dL_refused_172 : decode cL_refused 172 = .ok (.iconst 5, 1) := by decide +kernel
theorem dL_refused_173 : decode cL_refused 173 = .ok (.iconst 0, 1) := by decide +kernel
theorem dL_refused_174 : decode cL_refused 174 = .ok (.iconst 0, 1) := by decide +kernel
theorem dL_refused_175 : decode cL_refused 175 = .ok (.invokevirtual 70, 3) := by decide +kernel
theorem dL_refused_178 : decode cL_refused 178 = .ok (.iconst (-1), 1) := by decide +kernel
theorem dL_refused_179 : decode cL_refused 179 = .ok (.if_icmp .ne 18, 3) := by decide +kernel
theorem dL_refused_182 : decode cL_refused 182 = .ok (.aload_n 0, 1) := by decide +kernel
theorem dL_refused_183 : decode cL_refused 183 = .ok (.iload 5, 2) := by decide +kernel
theorem dL_refused_185 : decode cL_refused 185 = .ok (.iconst 0, 1) := by decide +kernel
theorem dL_refused_186 : decode cL_refused 186 = .ok (.invokevirtual 32, 3) := by decide +kernel
theorem dL_refused_189 : decode cL_refused 189 = .ok (.iconst (-1), 1) := by decide +kernel
theorem dL_refused_190 : decode cL_refused 190 = .ok (.if_icmp .ne 7, 3) := by decide +kernel
theorem dL_refused_193 : decode cL_refused 193 = .ok (.iconst 1, 1) := by decide +kernel
theorem dL_refused_194 : decode cL_refused 194 = .ok (.goto 4, 3) := by decide +kernel
theorem dL_refused_197 : decode cL_refused 197 = .ok (.iconst 0, 1) := by decide +kernel
theorem dL_refused_198 : decode cL_refused 198 = .ok (.istore 6, 2) := by decide +kernel
theorem dL_refused_200 : decode cL_refused 200 = .ok (.iload 6, 2) := by decide +kernel
theorem dL_refused_202 : decode cL_refused 202 = .ok (.ifCond .eq 179, 3) := by decide +kernel
theorem dL_refused_205 : decode cL_refused 205 = .ok (.aload_n 0, 1) := by decide +kernel
theorem dL_refused_206 : decode cL_refused 206 = .ok (.iconst 3, 1) := by decide +kernel
theorem dL_refused_207 : decode cL_refused 207 = .ok (.iconst 0, 1) := by decide +kernel
theorem dL_refused_208 : decode cL_refused 208 = .ok (.invokevirtual 74, 3) := by decide +kernel
theorem dL_refused_211 : decode cL_refused 211 = .ok (.iconst (-1), 1) := by decide +kernel
theorem dL_refused_212 : decode cL_refused 212 = .ok (.if_icmp .ne 169, 3) := by decide +kernel
theorem dL_refused_215 : decode cL_refused 215 = .ok (.aload_n 0, 1) := by decide +kernel
theorem dL_refused_216 : decode cL_refused 216 = .ok (.iconst 2, 1) := by decide +kernel
theorem dL_refused_217 : decode cL_refused 217 = .ok (.iconst 1, 1) := by decide +kernel
theorem dL_refused_218 : decode cL_refused 218 = .ok (.invokevirtual 74, 3) := by decide +kernel
theorem dL_refused_221 : decode cL_refused 221 = .ok (.iconst (-1), 1) := by decide +kernel
theorem dL_refused_222 : decode cL_refused 222 = .ok (.if_icmp .ne 159, 3) := by decide +kernel
theorem dL_refused_225 : decode cL_refused 225 = .ok (.aload_n 0, 1) := by decide +kernel
theorem dL_refused_226 : decode cL_refused 226 = .ok (.iload 5, 2) := by decide +kernel
theorem dL_refused_228 : decode cL_refused 228 = .ok (.iconst 0, 1) := by decide +kernel
theorem dL_refused_229 : decode cL_refused 229 = .ok (.iconst 1, 1) := by decide +kernel
theorem dL_refused_230 : decode cL_refused 230 = .ok (.invokevirtual 77, 3) := by decide +kernel
theorem dL_refused_233 : decode cL_refused 233 = .ok (.iconst (-1), 1) := by decide +kernel
theorem dL_refused_234 : decode cL_refused 234 = .ok (.if_icmp .ne 147, 3) := by decide +kernel
theorem dL_refused_237 : decode cL_refused 237 = .ok (.aload_n 0, 1) := by decide +kernel
theorem dL_refused_238 : decode cL_refused 238 = .ok (.iconst 0, 1) := by decide +kernel
theorem dL_refused_239 : decode cL_refused 239 = .ok (.iload 4, 2) := by decide +kernel
theorem dL_refused_241 : decode cL_refused 241 = .ok (.iconst 1, 1) := by decide +kernel
theorem dL_refused_242 : decode cL_refused 242 = .ok (.invokevirtual 77, 3) := by decide +kernel
theorem dL_refused_245 : decode cL_refused 245 = .ok (.iconst (-1), 1) := by decide +kernel
theorem dL_refused_246 : decode cL_refused 246 = .ok (.if_icmp .ne 135, 3) := by decide +kernel
theorem dL_refused_249 : decode cL_refused 249 = .ok (.aload_n 0, 1) := by decide +kernel
theorem dL_refused_250 : decode cL_refused 250 = .ok (.iconst 0, 1) := by decide +kernel
theorem dL_refused_251 : decode cL_refused 251 = .ok (.invokevirtual 35, 3) := by decide +kernel
theorem dL_refused_254 : decode cL_refused 254 = .ok (.iconst (-1), 1) := by decide +kernel
theorem dL_refused_255 : decode cL_refused 255 = .ok (.if_icmp .ne 126, 3) := by decide +kernel
theorem dL_refused_258 : decode cL_refused 258 = .ok (.aload_n 0, 1) := by decide +kernel
theorem dL_refused_259 : decode cL_refused 259 = .ok (.iconst 1, 1) := by decide +kernel
theorem dL_refused_260 : decode cL_refused 260 = .ok (.iconst (-1), 1) := by decide +kernel
theorem dL_refused_261 : decode cL_refused 261 = .ok (.iconst 0, 1) := by decide +kernel
theorem dL_refused_262 : decode cL_refused 262 = .ok (.invokevirtual 38, 3) := by decide +kernel
theorem dL_refused_265 : decode cL_refused 265 = .ok (.iconst (-1), 1) := by decide +kernel
theorem dL_refused_266 : decode cL_refused 266 = .ok (.if_icmp .ne 115, 3) := by decide +kernel
theorem dL_refused_269 : decode cL_refused 269 = .ok (.aload_n 0, 1) := by decide +kernel
theorem dL_refused_270 : decode cL_refused 270 = .ok (.bipush 127, 2) := by decide +kernel
theorem dL_refused_272 : decode cL_refused 272 = .ok (.invokevirtual 80, 3) := by decide +kernel
theorem dL_refused_275 : decode cL_refused 275 = .ok (.iconst (-1), 1) := by decide +kernel
theorem dL_refused_276 : decode cL_refused 276 = .ok (.if_icmp .ne 105, 3) := by decide +kernel
theorem dL_refused_279 : decode cL_refused 279 = .ok (.aload_n 0, 1) := by decide +kernel
theorem dL_refused_280 : decode cL_refused 280 = .ok (.iconst 2, 1) := by decide +kernel
theorem dL_refused_281 : decode cL_refused 281 = .ok (.invokevirtual 83, 3) := by decide +kernel
theorem dL_refused_284 : decode cL_refused 284 = .ok (.iconst (-1), 1) := by decide +kernel
theorem dL_refused_285 : decode cL_refused 285 = .ok (.if_icmp .ne 96, 3) := by decide +kernel
theorem dL_refused_288 : decode cL_refused 288 = .ok (.aload_n 0, 1) := by decide +kernel
theorem dL_refused_289 : decode cL_refused 289 = .ok (.iload 4, 2) := by decide +kernel
theorem dL_refused_291 : decode cL_refused 291 = .ok (.invokevirtual 86, 3) := by decide +kernel
theorem dL_refused_294 : decode cL_refused 294 = .ok (.iconst (-1), 1) := by decide +kernel
theorem dL_refused_295 : decode cL_refused 295 = .ok (.if_icmp .ne 86, 3) := by decide +kernel
theorem dL_refused_298 : decode cL_refused 298 = .ok (.aload_n 0, 1) := by decide +kernel
theorem dL_refused_299 : decode cL_refused 299 = .ok (.iconst 4, 1) := by decide +kernel
theorem dL_refused_300 : decode cL_refused 300 = .ok (.invokevirtual 13, 3) := by decide +kernel
theorem dL_refused_303 : decode cL_refused 303 = .ok (.iconst 1, 1) := by decide +kernel
theorem dL_refused_304 : decode cL_refused 304 = .ok (.if_icmp .eq 38, 3) := by decide +kernel
theorem dL_refused_307 : decode cL_refused 307 = .ok (.aload_n 0, 1) := by decide +kernel
theorem dL_refused_308 : decode cL_refused 308 = .ok (.invokevirtual 89, 3) := by decide +kernel
theorem dL_refused_311 : decode cL_refused 311 = .ok (.bipush (-2), 2) := by decide +kernel
theorem dL_refused_313 : decode cL_refused 313 = .ok (.if_icmp .ne 68, 3) := by decide +kernel
theorem dL_refused_316 : decode cL_refused 316 = .ok (.iload 4, 2) := by decide +kernel
theorem dL_refused_318 : decode cL_refused 318 = .ok (.ifCond .eq 24, 3) := by decide +kernel
theorem dL_refused_321 : decode cL_refused 321 = .ok (.aload_n 0, 1) := by decide +kernel
theorem dL_refused_322 : decode cL_refused 322 = .ok (.iconst 0, 1) := by decide +kernel
theorem dL_refused_323 : decode cL_refused 323 = .ok (.iconst 0, 1) := by decide +kernel
theorem dL_refused_324 : decode cL_refused 324 = .ok (.invokevirtual 64, 3) := by decide +kernel
theorem dL_refused_327 : decode cL_refused 327 = .ok (.bipush (-2), 2) := by decide +kernel
theorem dL_refused_329 : decode cL_refused 329 = .ok (.if_icmp .ne 52, 3) := by decide +kernel
theorem dL_refused_332 : decode cL_refused 332 = .ok (.aload_n 0, 1) := by decide +kernel
theorem dL_refused_333 : decode cL_refused 333 = .ok (.iconst 0, 1) := by decide +kernel
theorem dL_refused_334 : decode cL_refused 334 = .ok (.invokevirtual 86, 3) := by decide +kernel
theorem dL_refused_337 : decode cL_refused 337 = .ok (.bipush (-2), 2) := by decide +kernel
theorem dL_refused_339 : decode cL_refused 339 = .ok (.if_icmp .ne 42, 3) := by decide +kernel
theorem dL_refused_342 : decode cL_refused 342 = .ok (.aload_n 0, 1) := by decide +kernel
theorem dL_refused_343 : decode cL_refused 343 = .ok (.iconst 4, 1) := by decide +kernel
theorem dL_refused_344 : decode cL_refused 344 = .ok (.invokevirtual 13, 3) := by decide +kernel
theorem dL_refused_347 : decode cL_refused 347 = .ok (.ifCond .eq 12, 3) := by decide +kernel
theorem dL_refused_350 : decode cL_refused 350 = .ok (.aload_n 0, 1) := by decide +kernel
theorem dL_refused_351 : decode cL_refused 351 = .ok (.invokevirtual 92, 3) := by decide +kernel
theorem dL_refused_354 : decode cL_refused 354 = .ok (.bipush (-2), 2) := by decide +kernel
theorem dL_refused_356 : decode cL_refused 356 = .ok (.if_icmp .ne 25, 3) := by decide +kernel
theorem dL_refused_359 : decode cL_refused 359 = .ok (.aload_n 0, 1) := by decide +kernel
theorem dL_refused_360 : decode cL_refused 360 = .ok (.invokevirtual 42, 3) := by decide +kernel
theorem dL_refused_363 : decode cL_refused 363 = .ok (.ifCond .ge 14, 3) := by decide +kernel
theorem dL_refused_366 : decode cL_refused 366 = .ok (.aload_n 0, 1) := by decide +kernel
theorem dL_refused_367 : decode cL_refused 367 = .ok (.iconst 2, 1) := by decide +kernel
theorem dL_refused_368 : decode cL_refused 368 = .ok (.iconst 0, 1) := by decide +kernel
theorem dL_refused_369 : decode cL_refused 369 = .ok (.invokevirtual 74, 3) := by decide +kernel
theorem dL_refused_372 : decode cL_refused 372 = .ok (.bipush (-2), 2) := by decide +kernel
theorem dL_refused_374 : decode cL_refused 374 = .ok (.if_icmp .ne 7, 3) := by decide +kernel
theorem dL_refused_377 : decode cL_refused 377 = .ok (.iconst 1, 1) := by decide +kernel
theorem dL_refused_378 : decode cL_refused 378 = .ok (.goto 4, 3) := by decide +kernel
theorem dL_refused_381 : decode cL_refused 381 = .ok (.iconst 0, 1) := by decide +kernel
theorem dL_refused_382 : decode cL_refused 382 = .ok (.istore 6, 2) := by decide +kernel
theorem dL_refused_384 : decode cL_refused 384 = .ok (.iload 6, 2) := by decide +kernel
theorem dL_refused_386 : decode cL_refused 386 = .ok (.ifCond .eq 26, 3) := by decide +kernel
theorem dL_refused_389 : decode cL_refused 389 = .ok (.aload_n 0, 1) := by decide +kernel
theorem dL_refused_390 : decode cL_refused 390 = .ok (.invokestatic 46, 3) := by decide +kernel
theorem dL_refused_393 : decode cL_refused 393 = .ok (.lload_n 1, 1) := by decide +kernel
theorem dL_refused_394 : decode cL_refused 394 = .ok (.lcmp, 1) := by decide +kernel
theorem dL_refused_395 : decode cL_refused 395 = .ok (.ifCond .ne 17, 3) := by decide +kernel
theorem dL_refused_398 : decode cL_refused 398 = .ok (.aload_n 0, 1) := by decide +kernel
theorem dL_refused_399 : decode cL_refused 399 = .ok (.bipush 9, 2) := by decide +kernel
theorem dL_refused_401 : decode cL_refused 401 = .ok (.invokevirtual 13, 3) := by decide +kernel
theorem dL_refused_404 : decode cL_refused 404 = .ok (.iload_n 3, 1) := by decide +kernel
theorem dL_refused_405 : decode cL_refused 405 = .ok (.if_icmp .ne 7, 3) := by decide +kernel
theorem dL_refused_408 : decode cL_refused 408 = .ok (.iconst 1, 1) := by decide +kernel
theorem dL_refused_409 : decode cL_refused 409 = .ok (.goto 4, 3) := by decide +kernel
theorem dL_refused_412 : decode cL_refused 412 = .ok (.iconst 0, 1) := by decide +kernel
theorem dL_refused_413 : decode cL_refused 413 = .ok (.ireturn, 1) := by decide +kernel
theorem dL_areMembers_0 : decode cL_areMembers 0 = .ok (.iconst 0, 1) := by decide +kernel
theorem dL_areMembers_1 : decode cL_areMembers 1 = .ok (.istore_n 1, 1) := by decide +kernel
theorem dL_areMembers_2 : decode cL_areMembers 2 = .ok (.iconst 0, 1) := by decide +kernel
theorem dL_areMembers_3 : decode cL_areMembers 3 = .ok (.istore_n 2, 1) := by decide +kernel
theorem dL_areMembers_4 : decode cL_areMembers 4 = .ok (.iconst 1, 1) := by decide +kernel
theorem dL_areMembers_5 : decode cL_areMembers 5 = .ok (.istore_n 3, 1) := by decide +kernel
theorem dL_areMembers_6 : decode cL_areMembers 6 = .ok (.iconst 0, 1) := by decide +kernel
theorem dL_areMembers_7 : decode cL_areMembers 7 = .ok (.istore 4, 2) := by decide +kernel
theorem dL_areMembers_9 : decode cL_areMembers 9 = .ok (.iload 4, 2) := by decide +kernel
theorem dL_areMembers_11 : decode cL_areMembers 11 = .ok (.aload_n 0, 1) := by decide +kernel
theorem dL_areMembers_12 : decode cL_areMembers 12 = .ok (.iconst 0, 1) := by decide +kernel
theorem dL_areMembers_13 : decode cL_areMembers 13 = .ok (.invokevirtual 13, 3) := by decide +kernel
theorem dL_areMembers_16 : decode cL_areMembers 16 = .ok (.if_icmp .ge 167, 3) := by decide +kernel
theorem dL_areMembers_19 : decode cL_areMembers 19 = .ok (.iload_n 3, 1) := by decide +kernel
theorem dL_areMembers_20 : decode cL_areMembers 20 = .ok (.ifCond .eq 163, 3) := by decide +kernel
theorem dL_areMembers_23 : decode cL_areMembers 23 = .ok (.aload_n 0, 1) := by decide +kernel
theorem dL_areMembers_24 : decode cL_areMembers 24 = .ok (.iload 4, 2) := by decide +kernel
theorem dL_areMembers_26 : decode cL_areMembers 26 = .ok (.iconst 1, 1) := by decide +kernel
theorem dL_areMembers_27 : decode cL_areMembers 27 = .ok (.invokevirtual 22, 3) := by decide +kernel
theorem dL_areMembers_30 : decode cL_areMembers 30 = .ok (.aload_n 0, 1) := by decide +kernel
theorem dL_areMembers_31 : decode cL_areMembers 31 = .ok (.bipush 24, 2) := by decide +kernel
theorem dL_areMembers_33 : decode cL_areMembers 33 = .ok (.invokevirtual 13, 3) := by decide +kernel
theorem dL_areMembers_36 : decode cL_areMembers 36 = .ok (.if_icmp .lt 7, 3) := by decide +kernel
theorem dL_areMembers_39 : decode cL_areMembers 39 = .ok (.iconst 1, 1) := by decide +kernel
theorem dL_areMembers_40 : decode cL_areMembers 40 = .ok (.goto 4, 3) := by decide +kernel
theorem dL_areMembers_43 : decode cL_areMembers 43 = .ok (.iconst 0, 1) := by decide +kernel
theorem dL_areMembers_44 : decode cL_areMembers 44 = .ok (.istore 5, 2) := by decide +kernel
theorem dL_areMembers_46 : decode cL_areMembers 46 = .ok (.iload_n 1, 1) := by decide +kernel
theorem dL_areMembers_47 : decode cL_areMembers 47 = .ok (.iload 5, 2) := by decide +kernel
theorem dL_areMembers_49 : decode cL_areMembers 49 = .ok (.ifCond .eq 7, 3) := by decide +kernel
theorem dL_areMembers_52 : decode cL_areMembers 52 = .ok (.iconst 0, 1) := by decide +kernel
theorem dL_areMembers_53 : decode cL_areMembers 53 = .ok (.goto 10, 3) := by decide +kernel
theorem dL_areMembers_56 : decode cL_areMembers 56 = .ok (.aload_n 0, 1) := by decide +kernel
theorem dL_areMembers_57 : decode cL_areMembers 57 = .ok (.iload 4, 2) := by decide +kernel
theorem dL_areMembers_59 : decode cL_areMembers 59 = .ok (.iconst 0, 1) := by decide +kernel
theorem dL_areMembers_60 : decode cL_areMembers 60 = .ok (.invokevirtual 22, 3) := by decide +kernel
theorem dL_areMembers_63 : decode cL_areMembers 63 = .ok (.iadd, 1) := by decide +kernel
theorem dL_areMembers_64 : decode cL_areMembers 64 = .ok (.istore_n 1, 1) := by decide +kernel
theorem dL_areMembers_65 : decode cL_areMembers 65 = .ok (.iload_n 2, 1) := by decide +kernel
theorem dL_areMembers_66 : decode cL_areMembers 66 = .ok (.aload_n 0, 1) := by decide +kernel
theorem dL_areMembers_67 : decode cL_areMembers 67 = .ok (.iload 4, 2) := by decide +kernel
theorem dL_areMembers_69 : decode cL_areMembers 69 = .ok (.iconst 4, 1) := by decide +kernel
theorem dL_areMembers_70 : decode cL_areMembers 70 = .ok (.invokevirtual 22, 3) := by decide +kernel
theorem dL_areMembers_73 : decode cL_areMembers 73 = .ok (.iadd, 1) := by decide +kernel
theorem dL_areMembers_74 : decode cL_areMembers 74 = .ok (.istore_n 2, 1) := by decide +kernel
theorem dL_areMembers_75 : decode cL_areMembers 75 = .ok (.aload_n 0, 1) := by decide +kernel
theorem dL_areMembers_76 : decode cL_areMembers 76 = .ok (.iload 4, 2) := by decide +kernel
theorem dL_areMembers_78 : decode cL_areMembers 78 = .ok (.iconst 0, 1) := by decide +kernel
theorem dL_areMembers_79 : decode cL_areMembers 79 = .ok (.invokevirtual 22, 3) := by decide +kernel
theorem dL_areMembers_82 : decode cL_areMembers 82 = .ok (.ifCond .le 93, 3) := by decide +kernel
theorem dL_areMembers_85 : decode cL_areMembers 85 = .ok (.aload_n 0, 1) := by decide +kernel
theorem dL_areMembers_86 : decode cL_areMembers 86 = .ok (.iload 4, 2) := by decide +kernel
theorem dL_areMembers_88 : decode cL_areMembers 88 = .ok (.iconst 0, 1) := by decide +kernel
theorem dL_areMembers_89 : decode cL_areMembers 89 = .ok (.invokevirtual 22, 3) := by decide +kernel
theorem dL_areMembers_92 : decode cL_areMembers 92 = .ok (.bipush 10, 2) := by decide +kernel
theorem dL_areMembers_94 : decode cL_areMembers 94 = .ok (.if_icmp .ge 81, 3) := by decide +kernel
theorem dL_areMembers_97 : decode cL_areMembers 97 = .ok (.aload_n 0, 1) := by decide +kernel
theorem dL_areMembers_98 : decode cL_areMembers 98 = .ok (.iload 4, 2) := by decide +kernel
theorem dL_areMembers_100 : decode cL_areMembers 100 = .ok (.iconst 2, 1) := by decide +kernel
theorem dL_areMembers_101 : decode cL_areMembers 101 = .ok (.invokevirtual 22, 3) := by decide +kernel
theorem dL_areMembers_104 : decode cL_areMembers 104 = .ok (.iload 5, 2) := by decide +kernel
theorem dL_areMembers_106 : decode cL_areMembers 106 = .ok (.ifCond .eq 7, 3) := by decide +kernel
theorem dL_areMembers_109 : decode cL_areMembers 109 = .ok (.iconst 1, 1) := by decide +kernel
theorem dL_areMembers_110 : decode cL_areMembers 110 = .ok (.goto 4, 3) := by decide +kernel
theorem dL_areMembers_113 : decode cL_areMembers 113 = .ok (.iconst 0, 1) := by decide +kernel
theorem dL_areMembers_114 : decode cL_areMembers 114 = .ok (.if_icmp .ne 61, 3) := by decide +kernel
theorem dL_areMembers_117 : decode cL_areMembers 117 = .ok (.aload_n 0, 1) := by decide +kernel
theorem dL_areMembers_118 : decode cL_areMembers 118 = .ok (.iload 4, 2) := by decide +kernel
theorem dL_areMembers_120 : decode cL_areMembers 120 = .ok (.iconst 3, 1) := by decide +kernel
theorem dL_areMembers_121 : decode cL_areMembers 121 = .ok (.invokevirtual 22, 3) := by decide +kernel
theorem dL_areMembers_124 : decode cL_areMembers 124 = .ok (.bipush (-4), 2) := by decide +kernel
theorem dL_areMembers_126 : decode cL_areMembers 126 = .ok (.if_icmp .eq 24, 3) := by decide +kernel
theorem dL_areMembers_129 : decode cL_areMembers 129 = .ok (.aload_n 0, 1) := by decide +kernel
theorem dL_areMembers_130 : decode cL_areMembers 130 = .ok (.iload 4, 2) := by decide +kernel
theorem dL_areMembers_132 : decode cL_areMembers 132 = .ok (.iconst 3, 1) := by decide +kernel
theorem dL_areMembers_133 : decode cL_areMembers 133 = .ok (.invokevirtual 22, 3) := by decide +kernel
theorem dL_areMembers_136 : decode cL_areMembers 136 = .ok (.ifCond .lt 39, 3) := by decide +kernel
theorem dL_areMembers_139 : decode cL_areMembers 139 = .ok (.aload_n 0, 1) := by decide +kernel
theorem dL_areMembers_140 : decode cL_areMembers 140 = .ok (.iload 4, 2) := by decide +kernel
theorem dL_areMembers_142 : decode cL_areMembers 142 = .ok (.iconst 3, 1) := by decide +kernel
theorem dL_areMembers_143 : decode cL_areMembers 143 = .ok (.invokevirtual 22, 3) := by decide +kernel
theorem dL_areMembers_146 : decode cL_areMembers 146 = .ok (.iconst 3, 1) := by decide +kernel
theorem dL_areMembers_147 : decode cL_areMembers 147 = .ok (.if_icmp .ge 28, 3) := by decide +kernel
theorem dL_areMembers_150 : decode cL_areMembers 150 = .ok (.aload_n 0, 1) := by decide +kernel
theorem dL_areMembers_151 : decode cL_areMembers 151 = .ok (.iload 4, 2) := by decide +kernel
theorem dL_areMembers_153 : decode cL_areMembers 153 = .ok (.iconst 5, 1) := by decide +kernel
theorem dL_areMembers_154 : decode cL_areMembers 154 = .ok (.invokevirtual 22, 3) := by decide +kernel
theorem dL_areMembers_157 : decode cL_areMembers 157 = .ok (.aload_n 0, 1) := by decide +kernel
theorem dL_areMembers_158 : decode cL_areMembers 158 = .ok (.iconst 5, 1) := by decide +kernel
theorem dL_areMembers_159 : decode cL_areMembers 159 = .ok (.invokevirtual 13, 3) := by decide +kernel
theorem dL_areMembers_162 : decode cL_areMembers 162 = .ok (.aload_n 0, 1) := by decide +kernel
theorem dL_areMembers_163 : decode cL_areMembers 163 = .ok (.iconst 4, 1) := by decide +kernel
theorem dL_areMembers_164 : decode cL_areMembers 164 = .ok (.invokevirtual 13, 3) := by decide +kernel
theorem dL_areMembers_167 : decode cL_areMembers 167 = .ok (.isub, 1) := by decide +kernel
theorem dL_areMembers_168 : decode cL_areMembers 168 = .ok (.if_icmp .gt 7, 3) := by decide +kernel
theorem dL_areMembers_171 : decode cL_areMembers 171 = .ok (.iconst 1, 1) := by decide +kernel
theorem dL_areMembers_172 : decode cL_areMembers 172 = .ok (.goto 4, 3) := by decide +kernel
theorem dL_areMembers_175 : decode cL_areMembers 175 = .ok (.iconst 0, 1) := by decide +kernel
theorem dL_areMembers_176 : decode cL_areMembers 176 = .ok (.istore_n 3, 1) := by decide +kernel
theorem dL_areMembers_177 : decode cL_areMembers 177 = .ok (.iinc 4 1, 3) := by decide +kernel
theorem dL_areMembers_180 : decode cL_areMembers 180 = .ok (.goto (-171), 3) := by decide +kernel
theorem dL_areMembers_183 : decode cL_areMembers 183 = .ok (.iload_n 3, 1) := by decide +kernel
theorem dL_areMembers_184 : decode cL_areMembers 184 = .ok (.ifCond .eq 27, 3) := by decide +kernel
theorem dL_areMembers_187 : decode cL_areMembers 187 = .ok (.aload_n 0, 1) := by decide +kernel
theorem dL_areMembers_188 : decode cL_areMembers 188 = .ok (.bipush 8, 2) := by decide +kernel
theorem dL_areMembers_190 : decode cL_areMembers 190 = .ok (.invokevirtual 13, 3) := by decide +kernel
theorem dL_areMembers_193 : decode cL_areMembers 193 = .ok (.iload_n 1, 1) := by decide +kernel
theorem dL_areMembers_194 : decode cL_areMembers 194 = .ok (.if_icmp .ne 17, 3) := by decide +kernel
theorem dL_areMembers_197 : decode cL_areMembers 197 = .ok (.aload_n 0, 1) := by decide +kernel
theorem dL_areMembers_198 : decode cL_areMembers 198 = .ok (.bipush 6, 2) := by decide +kernel
theorem dL_areMembers_200 : decode cL_areMembers 200 = .ok (.invokevirtual 13, 3) := by decide +kernel
theorem dL_areMembers_203 : decode cL_areMembers 203 = .ok (.iload_n 2, 1) := by decide +kernel
theorem dL_areMembers_204 : decode cL_areMembers 204 = .ok (.if_icmp .ne 7, 3) := by decide +kernel
theorem dL_areMembers_207 : decode cL_areMembers 207 = .ok (.iconst 1, 1) := by decide +kernel
theorem dL_areMembers_208 : decode cL_areMembers 208 = .ok (.goto 4, 3) := by decide +kernel
theorem dL_areMembers_211 : decode cL_areMembers 211 = .ok (.iconst 0, 1) := by decide +kernel
theorem dL_areMembers_212 : decode cL_areMembers 212 = .ok (.ireturn, 1) := by decide +kernel
theorem dL_areVotes_0 : decode cL_areVotes 0 = .ok (.aload_n 0, 1) := by decide +kernel
theorem dL_areVotes_1 : decode cL_areVotes 1 = .ok (.iconst 5, 1) := by decide +kernel
theorem dL_areVotes_2 : decode cL_areVotes 2 = .ok (.invokevirtual 13, 3) := by decide +kernel
theorem dL_areVotes_5 : decode cL_areVotes 5 = .ok (.ifCond .ne 28, 3) := by decide +kernel
theorem dL_areVotes_8 : decode cL_areVotes 8 = .ok (.aload_n 0, 1) := by decide +kernel
theorem dL_areVotes_9 : decode cL_areVotes 9 = .ok (.iconst 0, 1) := by decide +kernel
theorem dL_areVotes_10 : decode cL_areVotes 10 = .ok (.invokevirtual 19, 3) := by decide +kernel
theorem dL_areVotes_13 : decode cL_areVotes 13 = .ok (.bipush (-4), 2) := by decide +kernel
theorem dL_areVotes_15 : decode cL_areVotes 15 = .ok (.if_icmp .ne 16, 3) := by decide +kernel
theorem dL_areVotes_18 : decode cL_areVotes 18 = .ok (.aload_n 0, 1) := by decide +kernel
theorem dL_areVotes_19 : decode cL_areVotes 19 = .ok (.invokevirtual 89, 3) := by decide +kernel
theorem dL_areVotes_22 : decode cL_areVotes 22 = .ok (.bipush (-2), 2) := by decide +kernel
theorem dL_areVotes_24 : decode cL_areVotes 24 = .ok (.if_icmp .ne 7, 3) := by decide +kernel
theorem dL_areVotes_27 : decode cL_areVotes 27 = .ok (.iconst 1, 1) := by decide +kernel
theorem dL_areVotes_28 : decode cL_areVotes 28 = .ok (.goto 4, 3) := by decide +kernel
theorem dL_areVotes_31 : decode cL_areVotes 31 = .ok (.iconst 0, 1) := by decide +kernel
theorem dL_areVotes_32 : decode cL_areVotes 32 = .ok (.ireturn, 1) := by decide +kernel
theorem dL_areVotes_33 : decode cL_areVotes 33 = .ok (.aload_n 0, 1) := by decide +kernel
theorem dL_areVotes_34 : decode cL_areVotes 34 = .ok (.iconst 0, 1) := by decide +kernel
theorem dL_areVotes_35 : decode cL_areVotes 35 = .ok (.invokevirtual 19, 3) := by decide +kernel
theorem dL_areVotes_38 : decode cL_areVotes 38 = .ok (.istore_n 1, 1) := by decide +kernel
theorem dL_areVotes_39 : decode cL_areVotes 39 = .ok (.aload_n 0, 1) := by decide +kernel
theorem dL_areVotes_40 : decode cL_areVotes 40 = .ok (.iconst 1, 1) := by decide +kernel
theorem dL_areVotes_41 : decode cL_areVotes 41 = .ok (.invokevirtual 19, 3) := by decide +kernel
theorem dL_areVotes_44 : decode cL_areVotes 44 = .ok (.istore_n 2, 1) := by decide +kernel
theorem dL_areVotes_45 : decode cL_areVotes 45 = .ok (.aload_n 0, 1) := by decide +kernel
theorem dL_areVotes_46 : decode cL_areVotes 46 = .ok (.iconst 2, 1) := by decide +kernel
theorem dL_areVotes_47 : decode cL_areVotes 47 = .ok (.invokevirtual 19, 3) := by decide +kernel
theorem dL_areVotes_50 : decode cL_areVotes 50 = .ok (.istore_n 3, 1) := by decide +kernel
theorem dL_areVotes_51 : decode cL_areVotes 51 = .ok (.aload_n 0, 1) := by decide +kernel
theorem dL_areVotes_52 : decode cL_areVotes 52 = .ok (.iconst 3, 1) := by decide +kernel
theorem dL_areVotes_53 : decode cL_areVotes 53 = .ok (.invokevirtual 19, 3) := by decide +kernel
theorem dL_areVotes_56 : decode cL_areVotes 56 = .ok (.istore 4, 2) := by decide +kernel
theorem dL_areVotes_58 : decode cL_areVotes 58 = .ok (.iload_n 2, 1) := by decide +kernel
theorem dL_areVotes_59 : decode cL_areVotes 59 = .ok (.iload_n 3, 1) := by decide +kernel
theorem dL_areVotes_60 : decode cL_areVotes 60 = .ok (.iload 4, 2) := by decide +kernel
theorem dL_areVotes_62 : decode cL_areVotes 62 = .ok (.iadd, 1) := by decide +kernel
theorem dL_areVotes_63 : decode cL_areVotes 63 = .ok (.aload_n 0, 1) := by decide +kernel
theorem dL_areVotes_64 : decode cL_areVotes 64 = .ok (.iconst 4, 1) := by decide +kernel
theorem dL_areVotes_65 : decode cL_areVotes 65 = .ok (.invokevirtual 19, 3) := by decide +kernel
theorem dL_areVotes_68 : decode cL_areVotes 68 = .ok (.iadd, 1) := by decide +kernel
theorem dL_areVotes_69 : decode cL_areVotes 69 = .ok (.if_icmp .ne 29, 3) := by decide +kernel
theorem dL_areVotes_72 : decode cL_areVotes 72 = .ok (.iload_n 2, 1) := by decide +kernel
theorem dL_areVotes_73 : decode cL_areVotes 73 = .ok (.iload_n 1, 1) := by decide +kernel
theorem dL_areVotes_74 : decode cL_areVotes 74 = .ok (.if_icmp .gt 24, 3) := by decide +kernel
theorem dL_areVotes_77 : decode cL_areVotes 77 = .ok (.iload_n 3, 1) := by decide +kernel
theorem dL_areVotes_78 : decode cL_areVotes 78 = .ok (.ifCond .lt 20, 3) := by decide +kernel
theorem dL_areVotes_81 : decode cL_areVotes 81 = .ok (.iload 4, 2) := by decide +kernel
theorem dL_areVotes_83 : decode cL_areVotes 83 = .ok (.ifCond .lt 15, 3) := by decide +kernel
theorem dL_areVotes_86 : decode cL_areVotes 86 = .ok (.aload_n 0, 1) := by decide +kernel
theorem dL_areVotes_87 : decode cL_areVotes 87 = .ok (.iconst 4, 1) := by decide +kernel
theorem dL_areVotes_88 : decode cL_areVotes 88 = .ok (.invokevirtual 19, 3) := by decide +kernel
theorem dL_areVotes_91 : decode cL_areVotes 91 = .ok (.ifCond .lt 7, 3) := by decide +kernel
theorem dL_areVotes_94 : decode cL_areVotes 94 = .ok (.iconst 1, 1) := by decide +kernel
theorem dL_areVotes_95 : decode cL_areVotes 95 = .ok (.goto 4, 3) := by decide +kernel
theorem dL_areVotes_98 : decode cL_areVotes 98 = .ok (.iconst 0, 1) := by decide +kernel
theorem dL_areVotes_99 : decode cL_areVotes 99 = .ok (.istore 5, 2) := by decide +kernel
theorem dL_areVotes_101 : decode cL_areVotes 101 = .ok (.aload_n 0, 1) := by decide +kernel
theorem dL_areVotes_102 : decode cL_areVotes 102 = .ok (.iconst 4, 1) := by decide +kernel
theorem dL_areVotes_103 : decode cL_areVotes 103 = .ok (.invokevirtual 13, 3) := by decide +kernel
theorem dL_areVotes_106 : decode cL_areVotes 106 = .ok (.ifCond .ne 32, 3) := by decide +kernel
theorem dL_areVotes_109 : decode cL_areVotes 109 = .ok (.iload 5, 2) := by decide +kernel
theorem dL_areVotes_111 : decode cL_areVotes 111 = .ok (.ifCond .eq 25, 3) := by decide +kernel
theorem dL_areVotes_114 : decode cL_areVotes 114 = .ok (.aload_n 0, 1) := by decide +kernel
theorem dL_areVotes_115 : decode cL_areVotes 115 = .ok (.iconst 5, 1) := by decide +kernel
theorem dL_areVotes_116 : decode cL_areVotes 116 = .ok (.invokevirtual 19, 3) := by decide +kernel
theorem dL_areVotes_119 : decode cL_areVotes 119 = .ok (.iconst 1, 1) := by decide +kernel
theorem dL_areVotes_120 : decode cL_areVotes 120 = .ok (.if_icmp .eq 12, 3) := by decide +kernel
theorem dL_areVotes_123 : decode cL_areVotes 123 = .ok (.aload_n 0, 1) := by decide +kernel
theorem dL_areVotes_124 : decode cL_areVotes 124 = .ok (.bipush 6, 2) := by decide +kernel
theorem dL_areVotes_126 : decode cL_areVotes 126 = .ok (.invokevirtual 13, 3) := by decide +kernel
theorem dL_areVotes_129 : decode cL_areVotes 129 = .ok (.ifCond .ne 7, 3) := by decide +kernel
theorem dL_areVotes_132 : decode cL_areVotes 132 = .ok (.iconst 1, 1) := by decide +kernel
theorem dL_areVotes_133 : decode cL_areVotes 133 = .ok (.goto 4, 3) := by decide +kernel
theorem dL_areVotes_136 : decode cL_areVotes 136 = .ok (.iconst 0, 1) := by decide +kernel
theorem dL_areVotes_137 : decode cL_areVotes 137 = .ok (.ireturn, 1) := by decide +kernel
theorem dL_areVotes_138 : decode cL_areVotes 138 = .ok (.iload_n 1, 1) := by decide +kernel
theorem dL_areVotes_139 : decode cL_areVotes 139 = .ok (.ifCond .le 47, 3) := by decide +kernel
theorem dL_areVotes_142 : decode cL_areVotes 142 = .ok (.iload_n 3, 1) := by decide +kernel
theorem dL_areVotes_143 : decode cL_areVotes 143 = .ok (.iload 4, 2) := by decide +kernel
theorem dL_areVotes_145 : decode cL_areVotes 145 = .ok (.iadd, 1) := by decide +kernel
theorem dL_areVotes_146 : decode cL_areVotes 146 = .ok (.ifCond .le 40, 3) := by decide +kernel
theorem dL_areVotes_149 : decode cL_areVotes 149 = .ok (.bipush 100, 2) := by decide +kernel
theorem dL_areVotes_151 : decode cL_areVotes 151 = .ok (.iload_n 2, 1) := by decide +kernel
theorem dL_areVotes_152 : decode cL_areVotes 152 = .ok (.imul, 1) := by decide +kernel
theorem dL_areVotes_153 : decode cL_areVotes 153 = .ok (.aload_n 0, 1) := by decide +kernel
theorem dL_areVotes_154 : decode cL_areVotes 154 = .ok (.bipush 20, 2) := by decide +kernel
theorem dL_areVotes_156 : decode cL_areVotes 156 = .ok (.invokevirtual 13, 3) := by decide +kernel
theorem dL_areVotes_159 : decode cL_areVotes 159 = .ok (.iload_n 1, 1) := by decide +kernel
theorem dL_areVotes_160 : decode cL_areVotes 160 = .ok (.imul, 1) := by decide +kernel
theorem dL_areVotes_161 : decode cL_areVotes 161 = .ok (.if_icmp .lt 25, 3) := by decide +kernel
theorem dL_areVotes_164 : decode cL_areVotes 164 = .ok (.bipush 100, 2) := by decide +kernel
theorem dL_areVotes_166 : decode cL_areVotes 166 = .ok (.iload_n 3, 1) := by decide +kernel
theorem dL_areVotes_167 : decode cL_areVotes 167 = .ok (.imul, 1) := by decide +kernel
theorem dL_areVotes_168 : decode cL_areVotes 168 = .ok (.aload_n 0, 1) := by decide +kernel
theorem dL_areVotes_169 : decode cL_areVotes 169 = .ok (.bipush 21, 2) := by decide +kernel
theorem dL_areVotes_171 : decode cL_areVotes 171 = .ok (.invokevirtual 13, 3) := by decide +kernel
theorem dL_areVotes_174 : decode cL_areVotes 174 = .ok (.iload_n 3, 1) := by decide +kernel
theorem dL_areVotes_175 : decode cL_areVotes 175 = .ok (.iload 4, 2) := by decide +kernel
theorem dL_areVotes_177 : decode cL_areVotes 177 = .ok (.iadd, 1) := by decide +kernel
theorem dL_areVotes_178 : decode cL_areVotes 178 = .ok (.imul, 1) := by decide +kernel
theorem dL_areVotes_179 : decode cL_areVotes 179 = .ok (.if_icmp .lt 7, 3) := by decide +kernel
theorem dL_areVotes_182 : decode cL_areVotes 182 = .ok (.iconst 1, 1) := by decide +kernel
theorem dL_areVotes_183 : decode cL_areVotes 183 = .ok (.goto 4, 3) := by decide +kernel
theorem dL_areVotes_186 : decode cL_areVotes 186 = .ok (.iconst 0, 1) := by decide +kernel
theorem dL_areVotes_187 : decode cL_areVotes 187 = .ok (.istore 6, 2) := by decide +kernel
theorem dL_areVotes_189 : decode cL_areVotes 189 = .ok (.iload 5, 2) := by decide +kernel
theorem dL_areVotes_191 : decode cL_areVotes 191 = .ok (.ifCond .eq 44, 3) := by decide +kernel
theorem dL_areVotes_194 : decode cL_areVotes 194 = .ok (.iload_n 1, 1) := by decide +kernel
theorem dL_areVotes_195 : decode cL_areVotes 195 = .ok (.aload_n 0, 1) := by decide +kernel
theorem dL_areVotes_196 : decode cL_areVotes 196 = .ok (.bipush 8, 2) := by decide +kernel
theorem dL_areVotes_198 : decode cL_areVotes 198 = .ok (.invokevirtual 13, 3) := by decide +kernel
theorem dL_areVotes_201 : decode cL_areVotes 201 = .ok (.if_icmp .ne 34, 3) := by decide +kernel
theorem dL_areVotes_204 : decode cL_areVotes 204 = .ok (.aload_n 0, 1) := by decide +kernel
theorem dL_areVotes_205 : decode cL_areVotes 205 = .ok (.iconst 5, 1) := by decide +kernel
theorem dL_areVotes_206 : decode cL_areVotes 206 = .ok (.invokevirtual 19, 3) := by decide +kernel
theorem dL_areVotes_209 : decode cL_areVotes 209 = .ok (.iload 6, 2) := by decide +kernel
theorem dL_areVotes_211 : decode cL_areVotes 211 = .ok (.ifCond .eq 7, 3) := by decide +kernel
theorem dL_areVotes_214 : decode cL_areVotes 214 = .ok (.iconst 1, 1) := by decide +kernel
theorem dL_areVotes_215 : decode cL_areVotes 215 = .ok (.goto 4, 3) := by decide +kernel
theorem dL_areVotes_218 : decode cL_areVotes 218 = .ok (.iconst 0, 1) := by decide +kernel
theorem dL_areVotes_219 : decode cL_areVotes 219 = .ok (.if_icmp .ne 16, 3) := by decide +kernel
theorem dL_areVotes_222 : decode cL_areVotes 222 = .ok (.aload_n 0, 1) := by decide +kernel
theorem dL_areVotes_223 : decode cL_areVotes 223 = .ok (.bipush 11, 2) := by decide +kernel
theorem dL_areVotes_225 : decode cL_areVotes 225 = .ok (.invokevirtual 13, 3) := by decide +kernel
theorem dL_areVotes_228 : decode cL_areVotes 228 = .ok (.ifCond .le 7, 3) := by decide +kernel
theorem dL_areVotes_231 : decode cL_areVotes 231 = .ok (.iconst 1, 1) := by decide +kernel
theorem dL_areVotes_232 : decode cL_areVotes 232 = .ok (.goto 4, 3) := by decide +kernel
theorem dL_areVotes_235 : decode cL_areVotes 235 = .ok (.iconst 0, 1) := by decide +kernel
theorem dL_areVotes_236 : decode cL_areVotes 236 = .ok (.istore 5, 2) := by decide +kernel
theorem dL_areVotes_238 : decode cL_areVotes 238 = .ok (.aload_n 0, 1) := by decide +kernel
theorem dL_areVotes_239 : decode cL_areVotes 239 = .ok (.invokevirtual 89, 3) := by decide +kernel
theorem dL_areVotes_242 : decode cL_areVotes 242 = .ok (.istore 7, 2) := by decide +kernel
theorem dL_areVotes_244 : decode cL_areVotes 244 = .ok (.iload 7, 2) := by decide +kernel
theorem dL_areVotes_246 : decode cL_areVotes 246 = .ok (.ifCond .lt 172, 3) := by decide +kernel
theorem dL_areVotes_249 : decode cL_areVotes 249 = .ok (.iload 7, 2) := by decide +kernel
theorem dL_areVotes_251 : decode cL_areVotes 251 = .ok (.iconst 1, 1) := by decide +kernel
theorem dL_areVotes_252 : decode cL_areVotes 252 = .ok (.isub, 1) := by decide +kernel
theorem dL_areVotes_253 : decode cL_areVotes 253 = .ok (.istore 8, 2) := by decide +kernel
theorem dL_areVotes_255 : decode cL_areVotes 255 = .ok (.iload_n 1, 1) := by decide +kernel
theorem dL_areVotes_256 : decode cL_areVotes 256 = .ok (.ifCond .le 59, 3) := by decide +kernel
theorem dL_areVotes_259 : decode cL_areVotes 259 = .ok (.iload_n 3, 1) := by decide +kernel
theorem dL_areVotes_260 : decode cL_areVotes 260 = .ok (.iload 4, 2) := by decide +kernel
theorem dL_areVotes_262 : decode cL_areVotes 262 = .ok (.iadd, 1) := by decide +kernel
theorem dL_areVotes_263 : decode cL_areVotes 263 = .ok (.iload 7, 2) := by decide +kernel
theorem dL_areVotes_265 : decode cL_areVotes 265 = .ok (.iadd, 1) := by decide +kernel
theorem dL_areVotes_266 : decode cL_areVotes 266 = .ok (.ifCond .le 49, 3) := by decide +kernel
theorem dL_areVotes_269 : decode cL_areVotes 269 = .ok (.bipush 100, 2) := by decide +kernel
theorem dL_areVotes_271 : decode cL_areVotes 271 = .ok (.iload_n 2, 1) := by decide +kernel
theorem dL_areVotes_272 : decode cL_areVotes 272 = .ok (.iload 7, 2) := by decide +kernel
theorem dL_areVotes_274 : decode cL_areVotes 274 = .ok (.iadd, 1) := by decide +kernel
theorem dL_areVotes_275 : decode cL_areVotes 275 = .ok (.imul, 1) := by decide +kernel
theorem dL_areVotes_276 : decode cL_areVotes 276 = .ok (.aload_n 0, 1) := by decide +kernel
theorem dL_areVotes_277 : decode cL_areVotes 277 = .ok (.bipush 20, 2) := by decide +kernel
theorem dL_areVotes_279 : decode cL_areVotes 279 = .ok (.invokevirtual 13, 3) := by decide +kernel
theorem dL_areVotes_282 : decode cL_areVotes 282 = .ok (.iload_n 1, 1) := by decide +kernel
theorem dL_areVotes_283 : decode cL_areVotes 283 = .ok (.imul, 1) := by decide +kernel
theorem dL_areVotes_284 : decode cL_areVotes 284 = .ok (.if_icmp .lt 31, 3) := by decide +kernel
theorem dL_areVotes_287 : decode cL_areVotes 287 = .ok (.bipush 100, 2) := by decide +kernel
theorem dL_areVotes_289 : decode cL_areVotes 289 = .ok (.iload_n 3, 1) := by decide +kernel
theorem dL_areVotes_290 : decode cL_areVotes 290 = .ok (.iload 7, 2) := by decide +kernel
theorem dL_areVotes_292 : decode cL_areVotes 292 = .ok (.iadd, 1) := by decide +kernel
theorem dL_areVotes_293 : decode cL_areVotes 293 = .ok (.imul, 1) := by decide +kernel
theorem dL_areVotes_294 : decode cL_areVotes 294 = .ok (.aload_n 0, 1) := by decide +kernel
theorem dL_areVotes_295 : decode cL_areVotes 295 = .ok (.bipush 21, 2) := by decide +kernel
theorem dL_areVotes_297 : decode cL_areVotes 297 = .ok (.invokevirtual 13, 3) := by decide +kernel
theorem dL_areVotes_300 : decode cL_areVotes 300 = .ok (.iload_n 3, 1) := by decide +kernel
theorem dL_areVotes_301 : decode cL_areVotes 301 = .ok (.iload 4, 2) := by decide +kernel
theorem dL_areVotes_303 : decode cL_areVotes 303 = .ok (.iadd, 1) := by decide +kernel
theorem dL_areVotes_304 : decode cL_areVotes 304 = .ok (.iload 7, 2) := by decide +kernel
theorem dL_areVotes_306 : decode cL_areVotes 306 = .ok (.iadd, 1) := by decide +kernel
theorem dL_areVotes_307 : decode cL_areVotes 307 = .ok (.imul, 1) := by decide +kernel
theorem dL_areVotes_308 : decode cL_areVotes 308 = .ok (.if_icmp .lt 7, 3) := by decide +kernel
theorem dL_areVotes_311 : decode cL_areVotes 311 = .ok (.iconst 1, 1) := by decide +kernel
theorem dL_areVotes_312 : decode cL_areVotes 312 = .ok (.goto 4, 3) := by decide +kernel
theorem dL_areVotes_315 : decode cL_areVotes 315 = .ok (.iconst 0, 1) := by decide +kernel
theorem dL_areVotes_316 : decode cL_areVotes 316 = .ok (.istore 9, 2) := by decide +kernel
theorem dL_areVotes_318 : decode cL_areVotes 318 = .ok (.iload 7, 2) := by decide +kernel
theorem dL_areVotes_320 : decode cL_areVotes 320 = .ok (.ifCond .le 59, 3) := by decide +kernel
theorem dL_areVotes_323 : decode cL_areVotes 323 = .ok (.iload_n 3, 1) := by decide +kernel
theorem dL_areVotes_324 : decode cL_areVotes 324 = .ok (.iload 4, 2) := by decide +kernel
theorem dL_areVotes_326 : decode cL_areVotes 326 = .ok (.iadd, 1) := by decide +kernel
theorem dL_areVotes_327 : decode cL_areVotes 327 = .ok (.iload 8, 2) := by decide +kernel
theorem dL_areVotes_329 : decode cL_areVotes 329 = .ok (.iadd, 1) := by decide +kernel
theorem dL_areVotes_330 : decode cL_areVotes 330 = .ok (.ifCond .le 49, 3) := by decide +kernel
theorem dL_areVotes_333 : decode cL_areVotes 333 = .ok (.bipush 100, 2) := by decide +kernel
theorem dL_areVotes_335 : decode cL_areVotes 335 = .ok (.iload_n 2, 1) := by decide +kernel
theorem dL_areVotes_336 : decode cL_areVotes 336 = .ok (.iload 8, 2) := by decide +kernel
theorem dL_areVotes_338 : decode cL_areVotes 338 = .ok (.iadd, 1) := by decide +kernel
theorem dL_areVotes_339 : decode cL_areVotes 339 = .ok (.imul, 1) := by decide +kernel
theorem dL_areVotes_340 : decode cL_areVotes 340 = .ok (.aload_n 0, 1) := by decide +kernel
theorem dL_areVotes_341 : decode cL_areVotes 341 = .ok (.bipush 20, 2) := by decide +kernel
theorem dL_areVotes_343 : decode cL_areVotes 343 = .ok (.invokevirtual 13, 3) := by decide +kernel
theorem dL_areVotes_346 : decode cL_areVotes 346 = .ok (.iload_n 1, 1) := by decide +kernel
theorem dL_areVotes_347 : decode cL_areVotes 347 = .ok (.imul, 1) := by decide +kernel
theorem dL_areVotes_348 : decode cL_areVotes 348 = .ok (.if_icmp .lt 31, 3) := by decide +kernel
theorem dL_areVotes_351 : decode cL_areVotes 351 = .ok (.bipush 100, 2) := by decide +kernel
theorem dL_areVotes_353 : decode cL_areVotes 353 = .ok (.iload_n 3, 1) := by decide +kernel
theorem dL_areVotes_354 : decode cL_areVotes 354 = .ok (.iload 8, 2) := by decide +kernel
theorem dL_areVotes_356 : decode cL_areVotes 356 = .ok (.iadd, 1) := by decide +kernel
theorem dL_areVotes_357 : decode cL_areVotes 357 = .ok (.imul, 1) := by decide +kernel
theorem dL_areVotes_358 : decode cL_areVotes 358 = .ok (.aload_n 0, 1) := by decide +kernel
theorem dL_areVotes_359 : decode cL_areVotes 359 = .ok (.bipush 21, 2) := by decide +kernel
theorem dL_areVotes_361 : decode cL_areVotes 361 = .ok (.invokevirtual 13, 3) := by decide +kernel
theorem dL_areVotes_364 : decode cL_areVotes 364 = .ok (.iload_n 3, 1) := by decide +kernel
theorem dL_areVotes_365 : decode cL_areVotes 365 = .ok (.iload 4, 2) := by decide +kernel
theorem dL_areVotes_367 : decode cL_areVotes 367 = .ok (.iadd, 1) := by decide +kernel
theorem dL_areVotes_368 : decode cL_areVotes 368 = .ok (.iload 8, 2) := by decide +kernel
theorem dL_areVotes_370 : decode cL_areVotes 370 = .ok (.iadd, 1) := by decide +kernel
theorem dL_areVotes_371 : decode cL_areVotes 371 = .ok (.imul, 1) := by decide +kernel
theorem dL_areVotes_372 : decode cL_areVotes 372 = .ok (.if_icmp .lt 7, 3) := by decide +kernel
theorem dL_areVotes_375 : decode cL_areVotes 375 = .ok (.iconst 1, 1) := by decide +kernel
theorem dL_areVotes_376 : decode cL_areVotes 376 = .ok (.goto 4, 3) := by decide +kernel
theorem dL_areVotes_379 : decode cL_areVotes 379 = .ok (.iconst 0, 1) := by decide +kernel
theorem dL_areVotes_380 : decode cL_areVotes 380 = .ok (.istore 10, 2) := by decide +kernel
theorem dL_areVotes_382 : decode cL_areVotes 382 = .ok (.iload 5, 2) := by decide +kernel
theorem dL_areVotes_384 : decode cL_areVotes 384 = .ok (.ifCond .eq 32, 3) := by decide +kernel
theorem dL_areVotes_387 : decode cL_areVotes 387 = .ok (.iload 9, 2) := by decide +kernel
theorem dL_areVotes_389 : decode cL_areVotes 389 = .ok (.ifCond .eq 27, 3) := by decide +kernel
theorem dL_areVotes_392 : decode cL_areVotes 392 = .ok (.iload 10, 2) := by decide +kernel
theorem dL_areVotes_394 : decode cL_areVotes 394 = .ok (.ifCond .ne 22, 3) := by decide +kernel
theorem dL_areVotes_397 : decode cL_areVotes 397 = .ok (.iload 7, 2) := by decide +kernel
theorem dL_areVotes_399 : decode cL_areVotes 399 = .ok (.ifCond .ne 7, 3) := by decide +kernel
theorem dL_areVotes_402 : decode cL_areVotes 402 = .ok (.iconst 1, 1) := by decide +kernel
theorem dL_areVotes_403 : decode cL_areVotes 403 = .ok (.goto 4, 3) := by decide +kernel
theorem dL_areVotes_406 : decode cL_areVotes 406 = .ok (.iconst 0, 1) := by decide +kernel
theorem dL_areVotes_407 : decode cL_areVotes 407 = .ok (.iload 6, 2) := by decide +kernel
theorem dL_areVotes_409 : decode cL_areVotes 409 = .ok (.if_icmp .ne 7, 3) := by decide +kernel
theorem dL_areVotes_412 : decode cL_areVotes 412 = .ok (.iconst 1, 1) := by decide +kernel
theorem dL_areVotes_413 : decode cL_areVotes 413 = .ok (.goto 4, 3) := by decide +kernel
theorem dL_areVotes_416 : decode cL_areVotes 416 = .ok (.iconst 0, 1) := by decide +kernel
theorem dL_areVotes_417 : decode cL_areVotes 417 = .ok (.ireturn, 1) := by decide +kernel
theorem dL_areVotes_418 : decode cL_areVotes 418 = .ok (.iload 5, 2) := by decide +kernel
theorem dL_areVotes_420 : decode cL_areVotes 420 = .ok (.ifCond .eq 34, 3) := by decide +kernel
theorem dL_areVotes_423 : decode cL_areVotes 423 = .ok (.iload 7, 2) := by decide +kernel
theorem dL_areVotes_425 : decode cL_areVotes 425 = .ok (.bipush (-4), 2) := by decide +kernel
theorem dL_areVotes_427 : decode cL_areVotes 427 = .ok (.if_icmp .ne 27, 3) := by decide +kernel
theorem dL_areVotes_430 : decode cL_areVotes 430 = .ok (.iload_n 1, 1) := by decide +kernel
theorem dL_areVotes_431 : decode cL_areVotes 431 = .ok (.ifCond .eq 19, 3) := by decide +kernel
theorem dL_areVotes_434 : decode cL_areVotes 434 = .ok (.aload_n 0, 1) := by decide +kernel
theorem dL_areVotes_435 : decode cL_areVotes 435 = .ok (.bipush 21, 2) := by decide +kernel
theorem dL_areVotes_437 : decode cL_areVotes 437 = .ok (.invokevirtual 13, 3) := by decide +kernel
theorem dL_areVotes_440 : decode cL_areVotes 440 = .ok (.bipush 100, 2) := by decide +kernel
theorem dL_areVotes_442 : decode cL_areVotes 442 = .ok (.if_icmp .ne 12, 3) := by decide +kernel
theorem dL_areVotes_445 : decode cL_areVotes 445 = .ok (.iload 4, 2) := by decide +kernel
theorem dL_areVotes_447 : decode cL_areVotes 447 = .ok (.ifCond .le 7, 3) := by decide +kernel
theorem dL_areVotes_450 : decode cL_areVotes 450 = .ok (.iconst 1, 1) := by decide +kernel
theorem dL_areVotes_451 : decode cL_areVotes 451 = .ok (.goto 4, 3) := by decide +kernel
theorem dL_areVotes_454 : decode cL_areVotes 454 = .ok (.iconst 0, 1) := by decide +kernel
theorem dL_areVotes_455 : decode cL_areVotes 455 = .ok (.ireturn, 1) := by decide +kernel
theorem dL_areComments_0 : decode cL_areComments 0 = .ok (.aload_n 0, 1) := by decide +kernel
theorem dL_areComments_1 : decode cL_areComments 1 = .ok (.invokevirtual 42, 3) := by decide +kernel
theorem dL_areComments_4 : decode cL_areComments 4 = .ok (.istore_n 1, 1) := by decide +kernel
theorem dL_areComments_5 : decode cL_areComments 5 = .ok (.iconst 0, 1) := by decide +kernel
theorem dL_areComments_6 : decode cL_areComments 6 = .ok (.istore_n 2, 1) := by decide +kernel
theorem dL_areComments_7 : decode cL_areComments 7 = .ok (.iload_n 1, 1) := by decide +kernel
theorem dL_areComments_8 : decode cL_areComments 8 = .ok (.bipush (-4), 2) := by decide +kernel
theorem dL_areComments_10 : decode cL_areComments 10 = .ok (.if_icmp .eq 13, 3) := by decide +kernel
theorem dL_areComments_13 : decode cL_areComments 13 = .ok (.aload_n 0, 1) := by decide +kernel
theorem dL_areComments_14 : decode cL_areComments 14 = .ok (.iload_n 1, 1) := by decide +kernel
theorem dL_areComments_15 : decode cL_areComments 15 = .ok (.iconst 4, 1) := by decide +kernel
theorem dL_areComments_16 : decode cL_areComments 16 = .ok (.invokevirtual 32, 3) := by decide +kernel
theorem dL_areComments_19 : decode cL_areComments 19 = .ok (.iconst 1, 1) := by decide +kernel
theorem dL_areComments_20 : decode cL_areComments 20 = .ok (.if_icmp .ne 7, 3) := by decide +kernel
theorem dL_areComments_23 : decode cL_areComments 23 = .ok (.iconst 1, 1) := by decide +kernel
theorem dL_areComments_24 : decode cL_areComments 24 = .ok (.goto 4, 3) := by decide +kernel
theorem dL_areComments_27 : decode cL_areComments 27 = .ok (.iconst 0, 1) := by decide +kernel
theorem dL_areComments_28 : decode cL_areComments 28 = .ok (.istore_n 3, 1) := by decide +kernel
theorem dL_areComments_29 : decode cL_areComments 29 = .ok (.iconst 0, 1) := by decide +kernel
theorem dL_areComments_30 : decode cL_areComments 30 = .ok (.istore 4, 2) := by decide +kernel
theorem dL_areComments_32 : decode cL_areComments 32 = .ok (.iload 4, 2) := by decide +kernel
theorem dL_areComments_34 : decode cL_areComments 34 = .ok (.aload_n 0, 1) := by decide +kernel
theorem dL_areComments_35 : decode cL_areComments 35 = .ok (.bipush 6, 2) := by decide +kernel
theorem dL_areComments_37 : decode cL_areComments 37 = .ok (.invokevirtual 13, 3) := by decide +kernel
theorem dL_areComments_40 : decode cL_areComments 40 = .ok (.if_icmp .ge 324, 3) := by decide +kernel
theorem dL_areComments_43 : decode cL_areComments 43 = .ok (.iload_n 3, 1) := by decide +kernel
theorem dL_areComments_44 : decode cL_areComments 44 = .ok (.ifCond .eq 320, 3) := by decide +kernel
theorem dL_areComments_47 : decode cL_areComments 47 = .ok (.aload_n 0, 1) := by decide +kernel
theorem dL_areComments_48 : decode cL_areComments 48 = .ok (.iload 4, 2) := by decide +kernel
theorem dL_areComments_50 : decode cL_areComments 50 = .ok (.iconst 4, 1) := by decide +kernel
theorem dL_areComments_51 : decode cL_areComments 51 = .ok (.invokevirtual 32, 3) := by decide +kernel
theorem dL_areComments_54 : decode cL_areComments 54 = .ok (.istore 5, 2) := by decide +kernel
theorem dL_areComments_56 : decode cL_areComments 56 = .ok (.iload_n 2, 1) := by decide +kernel
theorem dL_areComments_57 : decode cL_areComments 57 = .ok (.iload 5, 2) := by decide +kernel
theorem dL_areComments_59 : decode cL_areComments 59 = .ok (.iconst 1, 1) := by decide +kernel
theorem dL_areComments_60 : decode cL_areComments 60 = .ok (.if_icmp .ne 7, 3) := by decide +kernel
theorem dL_areComments_63 : decode cL_areComments 63 = .ok (.iconst 1, 1) := by decide +kernel
theorem dL_areComments_64 : decode cL_areComments 64 = .ok (.goto 4, 3) := by decide +kernel
theorem dL_areComments_67 : decode cL_areComments 67 = .ok (.iconst 0, 1) := by decide +kernel
theorem dL_areComments_68 : decode cL_areComments 68 = .ok (.iadd, 1) := by decide +kernel
theorem dL_areComments_69 : decode cL_areComments 69 = .ok (.istore_n 2, 1) := by decide +kernel
theorem dL_areComments_70 : decode cL_areComments 70 = .ok (.iload 5, 2) := by decide +kernel
theorem dL_areComments_72 : decode cL_areComments 72 = .ok (.ifCond .lt 168, 3) := by decide +kernel
theorem dL_areComments_75 : decode cL_areComments 75 = .ok (.iload 5, 2) := by decide +kernel
theorem dL_areComments_77 : decode cL_areComments 77 = .ok (.iconst 5, 1) := by decide +kernel
theorem dL_areComments_78 : decode cL_areComments 78 = .ok (.if_icmp .ge 162, 3) := by decide +kernel
theorem dL_areComments_81 : decode cL_areComments 81 = .ok (.iload 5, 2) := by decide +kernel
theorem dL_areComments_83 : decode cL_areComments 83 = .ok (.ifCond .ne 7, 3) := by decide +kernel
theorem dL_areComments_86 : decode cL_areComments 86 = .ok (.iconst 1, 1) := by decide +kernel
theorem dL_areComments_87 : decode cL_areComments 87 = .ok (.goto 4, 3) := by decide +kernel
theorem dL_areComments_90 : decode cL_areComments 90 = .ok (.iconst 0, 1) := by decide +kernel
theorem dL_areComments_91 : decode cL_areComments 91 = .ok (.aload_n 0, 1) := by decide +kernel
theorem dL_areComments_92 : decode cL_areComments 92 = .ok (.iconst 4, 1) := by decide +kernel
theorem dL_areComments_93 : decode cL_areComments 93 = .ok (.invokevirtual 13, 3) := by decide +kernel
theorem dL_areComments_96 : decode cL_areComments 96 = .ok (.iconst 1, 1) := by decide +kernel
theorem dL_areComments_97 : decode cL_areComments 97 = .ok (.if_icmp .ne 7, 3) := by decide +kernel
theorem dL_areComments_100 : decode cL_areComments 100 = .ok (.iconst 1, 1) := by decide +kernel
theorem dL_areComments_101 : decode cL_areComments 101 = .ok (.goto 4, 3) := by decide +kernel
theorem dL_areComments_104 : decode cL_areComments 104 = .ok (.iconst 0, 1) := by decide +kernel
theorem dL_areComments_105 : decode cL_areComments 105 = .ok (.if_icmp .ne 135, 3) := by decide +kernel
theorem dL_areComments_108 : decode cL_areComments 108 = .ok (.aload_n 0, 1) := by decide +kernel
theorem dL_areComments_109 : decode cL_areComments 109 = .ok (.iload 4, 2) := by decide +kernel
theorem dL_areComments_111 : decode cL_areComments 111 = .ok (.iconst 5, 1) := by decide +kernel
theorem dL_areComments_112 : decode cL_areComments 112 = .ok (.invokevirtual 32, 3) := by decide +kernel
theorem dL_areComments_115 : decode cL_areComments 115 = .ok (.bipush (-4), 2) := by decide +kernel
theorem dL_areComments_117 : decode cL_areComments 117 = .ok (.if_icmp .ne 7, 3) := by decide +kernel
theorem dL_areComments_120 : decode cL_areComments 120 = .ok (.iconst 1, 1) := by decide +kernel
theorem dL_areComments_121 : decode cL_areComments 121 = .ok (.goto 4, 3) := by decide +kernel
theorem dL_areComments_124 : decode cL_areComments 124 = .ok (.iconst 0, 1) := by decide +kernel
theorem dL_areComments_125 : decode cL_areComments 125 = .ok (.iload 5, 2) := by decide +kernel
theorem dL_areComments_127 : decode cL_areComments 127 = .ok (.iconst 2, 1) := by decide +kernel
theorem dL_areComments_128 : decode cL_areComments 128 = .ok (.if_icmp .ge 7, 3) := by decide +kernel
theorem dL_areComments_131 : decode cL_areComments 131 = .ok (.iconst 1, 1) := by decide +kernel
theorem dL_areComments_132 : decode cL_areComments 132 = .ok (.goto 4, 3) := by decide +kernel
theorem dL_areComments_135 : decode cL_areComments 135 = .ok (.iconst 0, 1) := by decide +kernel
theorem dL_areComments_136 : decode cL_areComments 136 = .ok (.if_icmp .ne 104, 3) := by decide +kernel
theorem dL_areComments_139 : decode cL_areComments 139 = .ok (.aload_n 0, 1) := by decide +kernel
theorem dL_areComments_140 : decode cL_areComments 140 = .ok (.iload 4, 2) := by decide +kernel
theorem dL_areComments_142 : decode cL_areComments 142 = .ok (.bipush 6, 2) := by decide +kernel
theorem dL_areComments_144 : decode cL_areComments 144 = .ok (.invokevirtual 32, 3) := by decide +kernel
theorem dL_areComments_147 : decode cL_areComments 147 = .ok (.bipush (-4), 2) := by decide +kernel
theorem dL_areComments_149 : decode cL_areComments 149 = .ok (.if_icmp .ne 7, 3) := by decide +kernel
theorem dL_areComments_152 : decode cL_areComments 152 = .ok (.iconst 1, 1) := by decide +kernel
theorem dL_areComments_153 : decode cL_areComments 153 = .ok (.goto 4, 3) := by decide +kernel
theorem dL_areComments_156 : decode cL_areComments 156 = .ok (.iconst 0, 1) := by decide +kernel
theorem dL_areComments_157 : decode cL_areComments 157 = .ok (.iload 5, 2) := by decide +kernel
theorem dL_areComments_159 : decode cL_areComments 159 = .ok (.iconst 2, 1) := by decide +kernel
theorem dL_areComments_160 : decode cL_areComments 160 = .ok (.if_icmp .eq 13, 3) := by decide +kernel
theorem dL_areComments_163 : decode cL_areComments 163 = .ok (.iload 5, 2) := by decide +kernel
theorem dL_areComments_165 : decode cL_areComments 165 = .ok (.iconst 3, 1) := by decide +kernel
theorem dL_areComments_166 : decode cL_areComments 166 = .ok (.if_icmp .eq 7, 3) := by decide +kernel
theorem dL_areComments_169 : decode cL_areComments 169 = .ok (.iconst 1, 1) := by decide +kernel
theorem dL_areComments_170 : decode cL_areComments 170 = .ok (.goto 4, 3) := by decide +kernel
theorem dL_areComments_173 : decode cL_areComments 173 = .ok (.iconst 0, 1) := by decide +kernel
theorem dL_areComments_174 : decode cL_areComments 174 = .ok (.if_icmp .ne 66, 3) := by decide +kernel
theorem dL_areComments_177 : decode cL_areComments 177 = .ok (.iload 5, 2) := by decide +kernel
theorem dL_areComments_179 : decode cL_areComments 179 = .ok (.iconst 2, 1) := by decide +kernel
theorem dL_areComments_180 : decode cL_areComments 180 = .ok (.if_icmp .ne 21, 3) := by decide +kernel
theorem dL_areComments_183 : decode cL_areComments 183 = .ok (.aload_n 0, 1) := by decide +kernel
theorem dL_areComments_184 : decode cL_areComments 184 = .ok (.iload 4, 2) := by decide +kernel
theorem dL_areComments_186 : decode cL_areComments 186 = .ok (.bipush 6, 2) := by decide +kernel
theorem dL_areComments_188 : decode cL_areComments 188 = .ok (.invokevirtual 32, 3) := by decide +kernel
theorem dL_areComments_191 : decode cL_areComments 191 = .ok (.aload_n 0, 1) := by decide +kernel
theorem dL_areComments_192 : decode cL_areComments 192 = .ok (.iload 4, 2) := by decide +kernel
theorem dL_areComments_194 : decode cL_areComments 194 = .ok (.iconst 3, 1) := by decide +kernel
theorem dL_areComments_195 : decode cL_areComments 195 = .ok (.invokevirtual 32, 3) := by decide +kernel
theorem dL_areComments_198 : decode cL_areComments 198 = .ok (.if_icmp .ne 42, 3) := by decide +kernel
theorem dL_areComments_201 : decode cL_areComments 201 = .ok (.iload 5, 2) := by decide +kernel
theorem dL_areComments_203 : decode cL_areComments 203 = .ok (.iconst 2, 1) := by decide +kernel
theorem dL_areComments_204 : decode cL_areComments 204 = .ok (.if_icmp .lt 18, 3) := by decide +kernel
theorem dL_areComments_207 : decode cL_areComments 207 = .ok (.aload_n 0, 1) := by decide +kernel
theorem dL_areComments_208 : decode cL_areComments 208 = .ok (.iload 4, 2) := by decide +kernel
theorem dL_areComments_210 : decode cL_areComments 210 = .ok (.iconst 5, 1) := by decide +kernel
theorem dL_areComments_211 : decode cL_areComments 211 = .ok (.invokevirtual 32, 3) := by decide +kernel
theorem dL_areComments_214 : decode cL_areComments 214 = .ok (.aload_n 0, 1) := by decide +kernel
theorem dL_areComments_215 : decode cL_areComments 215 = .ok (.iconst 3, 1) := by decide +kernel
theorem dL_areComments_216 : decode cL_areComments 216 = .ok (.invokevirtual 13, 3) := by decide +kernel
theorem dL_areComments_219 : decode cL_areComments 219 = .ok (.if_icmp .gt 21, 3) := by decide +kernel
theorem dL_areComments_222 : decode cL_areComments 222 = .ok (.aload_n 0, 1) := by decide +kernel
theorem dL_areComments_223 : decode cL_areComments 223 = .ok (.aload_n 0, 1) := by decide +kernel
theorem dL_areComments_224 : decode cL_areComments 224 = .ok (.iload 4, 2) := by decide +kernel
theorem dL_areComments_226 : decode cL_areComments 226 = .ok (.iconst 1, 1) := by decide +kernel
theorem dL_areComments_227 : decode cL_areComments 227 = .ok (.invokevirtual 32, 3) := by decide +kernel
theorem dL_areComments_230 : decode cL_areComments 230 = .ok (.invokevirtual 29, 3) := by decide +kernel
theorem dL_areComments_233 : decode cL_areComments 233 = .ok (.ifCond .lt 7, 3) := by decide +kernel
theorem dL_areComments_236 : decode cL_areComments 236 = .ok (.iconst 1, 1) := by decide +kernel
theorem dL_areComments_237 : decode cL_areComments 237 = .ok (.goto 4, 3) := by decide +kernel
theorem dL_areComments_240 : decode cL_areComments 240 = .ok (.iconst 0, 1) := by decide +kernel
theorem dL_areComments_241 : decode cL_areComments 241 = .ok (.istore_n 3, 1) := by decide +kernel
theorem dL_areComments_242 : decode cL_areComments 242 = .ok (.iload_n 3, 1) := by decide +kernel
theorem dL_areComments_243 : decode cL_areComments 243 = .ok (.ifCond .eq 115, 3) := by decide +kernel
theorem dL_areComments_246 : decode cL_areComments 246 = .ok (.iload 5, 2) := by decide +kernel
theorem dL_areComments_248 : decode cL_areComments 248 = .ok (.iconst 1, 1) := by decide +kernel
theorem dL_areComments_249 : decode cL_areComments 249 = .ok (.if_icmp .ne 109, 3) := by decide +kernel
theorem dL_areComments_252 : decode cL_areComments 252 = .ok (.iload 4, 2) := by decide +kernel
theorem dL_areComments_254 : decode cL_areComments 254 = .ok (.iload_n 1, 1) := by decide +kernel
theorem dL_areComments_255 : decode cL_areComments 255 = .ok (.if_icmp .eq 103, 3) := by decide +kernel
theorem dL_areComments_258 : decode cL_areComments 258 = .ok (.aload_n 0, 1) := by decide +kernel
theorem dL_areComments_259 : decode cL_areComments 259 = .ok (.iload 4, 2) := by decide +kernel
theorem dL_areComments_261 : decode cL_areComments 261 = .ok (.iconst 2, 1) := by decide +kernel
theorem dL_areComments_262 : decode cL_areComments 262 = .ok (.invokevirtual 32, 3) := by decide +kernel
theorem dL_areComments_265 : decode cL_areComments 265 = .ok (.aload_n 0, 1) := by decide +kernel
theorem dL_areComments_266 : decode cL_areComments 266 = .ok (.iload_n 1, 1) := by decide +kernel
theorem dL_areComments_267 : decode cL_areComments 267 = .ok (.iconst 2, 1) := by decide +kernel
theorem dL_areComments_268 : decode cL_areComments 268 = .ok (.invokevirtual 32, 3) := by decide +kernel
theorem dL_areComments_271 : decode cL_areComments 271 = .ok (.isub, 1) := by decide +kernel
theorem dL_areComments_272 : decode cL_areComments 272 = .ok (.istore 6, 2) := by decide +kernel
theorem dL_areComments_274 : decode cL_areComments 274 = .ok (.aload_n 0, 1) := by decide +kernel
theorem dL_areComments_275 : decode cL_areComments 275 = .ok (.iload 4, 2) := by decide +kernel
theorem dL_areComments_277 : decode cL_areComments 277 = .ok (.iconst 1, 1) := by decide +kernel
theorem dL_areComments_278 : decode cL_areComments 278 = .ok (.invokevirtual 32, 3) := by decide +kernel
theorem dL_areComments_281 : decode cL_areComments 281 = .ok (.aload_n 0, 1) := by decide +kernel
theorem dL_areComments_282 : decode cL_areComments 282 = .ok (.iload_n 1, 1) := by decide +kernel
theorem dL_areComments_283 : decode cL_areComments 283 = .ok (.iconst 1, 1) := by decide +kernel
theorem dL_areComments_284 : decode cL_areComments 284 = .ok (.invokevirtual 32, 3) := by decide +kernel
theorem dL_areComments_287 : decode cL_areComments 287 = .ok (.isub, 1) := by decide +kernel
theorem dL_areComments_288 : decode cL_areComments 288 = .ok (.istore 7, 2) := by decide +kernel
theorem dL_areComments_290 : decode cL_areComments 290 = .ok (.aload_n 0, 1) := by decide +kernel
theorem dL_areComments_291 : decode cL_areComments 291 = .ok (.aload_n 0, 1) := by decide +kernel
theorem dL_areComments_292 : decode cL_areComments 292 = .ok (.iload 4, 2) := by decide +kernel
theorem dL_areComments_294 : decode cL_areComments 294 = .ok (.iconst 0, 1) := by decide +kernel
theorem dL_areComments_295 : decode cL_areComments 295 = .ok (.invokevirtual 32, 3) := by decide +kernel
theorem dL_areComments_298 : decode cL_areComments 298 = .ok (.iconst 0, 1) := by decide +kernel
theorem dL_areComments_299 : decode cL_areComments 299 = .ok (.invokevirtual 22, 3) := by decide +kernel
theorem dL_areComments_302 : decode cL_areComments 302 = .ok (.aload_n 0, 1) := by decide +kernel
theorem dL_areComments_303 : decode cL_areComments 303 = .ok (.aload_n 0, 1) := by decide +kernel
theorem dL_areComments_304 : decode cL_areComments 304 = .ok (.iload_n 1, 1) := by decide +kernel
theorem dL_areComments_305 : decode cL_areComments 305 = .ok (.iconst 0, 1) := by decide +kernel
theorem dL_areComments_306 : decode cL_areComments 306 = .ok (.invokevirtual 32, 3) := by decide +kernel
theorem dL_areComments_309 : decode cL_areComments 309 = .ok (.iconst 0, 1) := by decide +kernel
theorem dL_areComments_310 : decode cL_areComments 310 = .ok (.invokevirtual 22, 3) := by decide +kernel
theorem dL_areComments_313 : decode cL_areComments 313 = .ok (.isub, 1) := by decide +kernel
theorem dL_areComments_314 : decode cL_areComments 314 = .ok (.istore 8, 2) := by decide +kernel
theorem dL_areComments_316 : decode cL_areComments 316 = .ok (.iload 6, 2) := by decide +kernel
theorem dL_areComments_318 : decode cL_areComments 318 = .ok (.ifCond .lt 34, 3) := by decide +kernel
theorem dL_areComments_321 : decode cL_areComments 321 = .ok (.iload 6, 2) := by decide +kernel
theorem dL_areComments_323 : decode cL_areComments 323 = .ok (.ifCond .ne 33, 3) := by decide +kernel
theorem dL_areComments_326 : decode cL_areComments 326 = .ok (.iload 7, 2) := by decide +kernel
theorem dL_areComments_328 : decode cL_areComments 328 = .ok (.ifCond .gt 24, 3) := by decide +kernel
theorem dL_areComments_331 : decode cL_areComments 331 = .ok (.iload 7, 2) := by decide +kernel
theorem dL_areComments_333 : decode cL_areComments 333 = .ok (.ifCond .ne 23, 3) := by decide +kernel
theorem dL_areComments_336 : decode cL_areComments 336 = .ok (.iload 8, 2) := by decide +kernel
theorem dL_areComments_338 : decode cL_areComments 338 = .ok (.ifCond .lt 14, 3) := by decide +kernel
theorem dL_areComments_341 : decode cL_areComments 341 = .ok (.iload 8, 2) := by decide +kernel
theorem dL_areComments_343 : decode cL_areComments 343 = .ok (.ifCond .ne 13, 3) := by decide +kernel
theorem dL_areComments_346 : decode cL_areComments 346 = .ok (.iload 4, 2) := by decide +kernel
theorem dL_areComments_348 : decode cL_areComments 348 = .ok (.iload_n 1, 1) := by decide +kernel
theorem dL_areComments_349 : decode cL_areComments 349 = .ok (.if_icmp .le 7, 3) := by decide +kernel
theorem dL_areComments_352 : decode cL_areComments 352 = .ok (.iconst 1, 1) := by decide +kernel
theorem dL_areComments_353 : decode cL_areComments 353 = .ok (.goto 4, 3) := by decide +kernel
theorem dL_areComments_356 : decode cL_areComments 356 = .ok (.iconst 0, 1) := by decide +kernel
theorem dL_areComments_357 : decode cL_areComments 357 = .ok (.istore_n 3, 1) := by decide +kernel
theorem dL_areComments_358 : decode cL_areComments 358 = .ok (.iinc 4 1, 3) := by decide +kernel
theorem dL_areComments_361 : decode cL_areComments 361 = .ok (.goto (-329), 3) := by decide +kernel
theorem dL_areComments_364 : decode cL_areComments 364 = .ok (.iload_n 3, 1) := by decide +kernel
theorem dL_areComments_365 : decode cL_areComments 365 = .ok (.ifCond .eq 40, 3) := by decide +kernel
theorem dL_areComments_368 : decode cL_areComments 368 = .ok (.iload_n 2, 1) := by decide +kernel
theorem dL_areComments_369 : decode cL_areComments 369 = .ok (.aload_n 0, 1) := by decide +kernel
theorem dL_areComments_370 : decode cL_areComments 370 = .ok (.bipush 7, 2) := by decide +kernel
theorem dL_areComments_372 : decode cL_areComments 372 = .ok (.invokevirtual 13, 3) := by decide +kernel
theorem dL_areComments_375 : decode cL_areComments 375 = .ok (.if_icmp .ne 30, 3) := by decide +kernel
theorem dL_areComments_378 : decode cL_areComments 378 = .ok (.iload_n 2, 1) := by decide +kernel
theorem dL_areComments_379 : decode cL_areComments 379 = .ok (.ifCond .ne 7, 3) := by decide +kernel
theorem dL_areComments_382 : decode cL_areComments 382 = .ok (.iconst 1, 1) := by decide +kernel
theorem dL_areComments_383 : decode cL_areComments 383 = .ok (.goto 4, 3) := by decide +kernel
theorem dL_areComments_386 : decode cL_areComments 386 = .ok (.iconst 0, 1) := by decide +kernel
theorem dL_areComments_387 : decode cL_areComments 387 = .ok (.iload_n 1, 1) := by decide +kernel
theorem dL_areComments_388 : decode cL_areComments 388 = .ok (.bipush (-4), 2) := by decide +kernel
theorem dL_areComments_390 : decode cL_areComments 390 = .ok (.if_icmp .ne 7, 3) := by decide +kernel
theorem dL_areComments_393 : decode cL_areComments 393 = .ok (.iconst 1, 1) := by decide +kernel
theorem dL_areComments_394 : decode cL_areComments 394 = .ok (.goto 4, 3) := by decide +kernel
theorem dL_areComments_397 : decode cL_areComments 397 = .ok (.iconst 0, 1) := by decide +kernel
theorem dL_areComments_398 : decode cL_areComments 398 = .ok (.if_icmp .ne 7, 3) := by decide +kernel
theorem dL_areComments_401 : decode cL_areComments 401 = .ok (.iconst 1, 1) := by decide +kernel
theorem dL_areComments_402 : decode cL_areComments 402 = .ok (.goto 4, 3) := by decide +kernel
theorem dL_areComments_405 : decode cL_areComments 405 = .ok (.iconst 0, 1) := by decide +kernel
theorem dL_areComments_406 : decode cL_areComments 406 = .ok (.ireturn, 1) := by decide +kernel
theorem dL_areEditions_0 : decode cL_areEditions 0 = .ok (.aload_n 0, 1) := by decide +kernel
theorem dL_areEditions_1 : decode cL_areEditions 1 = .ok (.iconst 2, 1) := by decide +kernel
theorem dL_areEditions_2 : decode cL_areEditions 2 = .ok (.invokevirtual 13, 3) := by decide +kernel
theorem dL_areEditions_5 : decode cL_areEditions 5 = .ok (.istore_n 1, 1) := by decide +kernel
theorem dL_areEditions_6 : decode cL_areEditions 6 = .ok (.iload_n 1, 1) := by decide +kernel
theorem dL_areEditions_7 : decode cL_areEditions 7 = .ok (.iconst 1, 1) := by decide +kernel
theorem dL_areEditions_8 : decode cL_areEditions 8 = .ok (.if_icmp .lt 13, 3) := by decide +kernel
theorem dL_areEditions_11 : decode cL_areEditions 11 = .ok (.iload_n 1, 1) := by decide +kernel
theorem dL_areEditions_12 : decode cL_areEditions 12 = .ok (.bipush 12, 2) := by decide +kernel
theorem dL_areEditions_14 : decode cL_areEditions 14 = .ok (.if_icmp .gt 7, 3) := by decide +kernel
theorem dL_areEditions_17 : decode cL_areEditions 17 = .ok (.iconst 1, 1) := by decide +kernel
theorem dL_areEditions_18 : decode cL_areEditions 18 = .ok (.goto 4, 3) := by decide +kernel
theorem dL_areEditions_21 : decode cL_areEditions 21 = .ok (.iconst 0, 1) := by decide +kernel
theorem dL_areEditions_22 : decode cL_areEditions 22 = .ok (.istore_n 2, 1) := by decide +kernel
theorem dL_areEditions_23 : decode cL_areEditions 23 = .ok (.iconst 0, 1) := by decide +kernel
theorem dL_areEditions_24 : decode cL_areEditions 24 = .ok (.istore_n 3, 1) := by decide +kernel
theorem dL_areEditions_25 : decode cL_areEditions 25 = .ok (.iload_n 3, 1) := by decide +kernel
theorem dL_areEditions_26 : decode cL_areEditions 26 = .ok (.aload_n 0, 1) := by decide +kernel
theorem dL_areEditions_27 : decode cL_areEditions 27 = .ok (.iconst 1, 1) := by decide +kernel
theorem dL_areEditions_28 : decode cL_areEditions 28 = .ok (.invokevirtual 13, 3) := by decide +kernel
theorem dL_areEditions_31 : decode cL_areEditions 31 = .ok (.if_icmp .ge 91, 3) := by decide +kernel
theorem dL_areEditions_34 : decode cL_areEditions 34 = .ok (.iload_n 2, 1) := by decide +kernel
theorem dL_areEditions_35 : decode cL_areEditions 35 = .ok (.ifCond .eq 87, 3) := by decide +kernel
theorem dL_areEditions_38 : decode cL_areEditions 38 = .ok (.aload_n 0, 1) := by decide +kernel
theorem dL_areEditions_39 : decode cL_areEditions 39 = .ok (.iload_n 3, 1) := by decide +kernel
theorem dL_areEditions_40 : decode cL_areEditions 40 = .ok (.invokevirtual 26, 3) := by decide +kernel
theorem dL_areEditions_43 : decode cL_areEditions 43 = .ok (.istore 4, 2) := by decide +kernel
theorem dL_areEditions_45 : decode cL_areEditions 45 = .ok (.iload_n 3, 1) := by decide +kernel
theorem dL_areEditions_46 : decode cL_areEditions 46 = .ok (.ifCond .eq 15, 3) := by decide +kernel
theorem dL_areEditions_49 : decode cL_areEditions 49 = .ok (.iload 4, 2) := by decide +kernel
theorem dL_areEditions_51 : decode cL_areEditions 51 = .ok (.aload_n 0, 1) := by decide +kernel
theorem dL_areEditions_52 : decode cL_areEditions 52 = .ok (.iload_n 3, 1) := by decide +kernel
theorem dL_areEditions_53 : decode cL_areEditions 53 = .ok (.iconst 1, 1) := by decide +kernel
theorem dL_areEditions_54 : decode cL_areEditions 54 = .ok (.isub, 1) := by decide +kernel
theorem dL_areEditions_55 : decode cL_areEditions 55 = .ok (.invokevirtual 26, 3) := by decide +kernel
theorem dL_areEditions_58 : decode cL_areEditions 58 = .ok (.if_icmp .le 56, 3) := by decide +kernel
theorem dL_areEditions_61 : decode cL_areEditions 61 = .ok (.aload_n 0, 1) := by decide +kernel
theorem dL_areEditions_62 : decode cL_areEditions 62 = .ok (.bipush 7, 2) := by decide +kernel
theorem dL_areEditions_64 : decode cL_areEditions 64 = .ok (.invokevirtual 13, 3) := by decide +kernel
theorem dL_areEditions_67 : decode cL_areEditions 67 = .ok (.ifCond .gt 19, 3) := by decide +kernel
theorem dL_areEditions_70 : decode cL_areEditions 70 = .ok (.aload_n 0, 1) := by decide +kernel
theorem dL_areEditions_71 : decode cL_areEditions 71 = .ok (.iload 4, 2) := by decide +kernel
theorem dL_areEditions_73 : decode cL_areEditions 73 = .ok (.invokevirtual 29, 3) := by decide +kernel
theorem dL_areEditions_76 : decode cL_areEditions 76 = .ok (.aload_n 0, 1) := by decide +kernel
theorem dL_areEditions_77 : decode cL_areEditions 77 = .ok (.iload 4, 2) := by decide +kernel
theorem dL_areEditions_79 : decode cL_areEditions 79 = .ok (.iload_n 1, 1) := by decide +kernel
theorem dL_areEditions_80 : decode cL_areEditions 80 = .ok (.invokevirtual 61, 3) := by decide +kernel
theorem dL_areEditions_83 : decode cL_areEditions 83 = .ok (.if_icmp .ne 31, 3) := by decide +kernel
theorem dL_areEditions_86 : decode cL_areEditions 86 = .ok (.aload_n 0, 1) := by decide +kernel
theorem dL_areEditions_87 : decode cL_areEditions 87 = .ok (.iload 4, 2) := by decide +kernel
theorem dL_areEditions_89 : decode cL_areEditions 89 = .ok (.iconst 0, 1) := by decide +kernel
theorem dL_areEditions_90 : decode cL_areEditions 90 = .ok (.invokevirtual 61, 3) := by decide +kernel
theorem dL_areEditions_93 : decode cL_areEditions 93 = .ok (.iconst (-1), 1) := by decide +kernel
theorem dL_areEditions_94 : decode cL_areEditions 94 = .ok (.if_icmp .ne 20, 3) := by decide +kernel
theorem dL_areEditions_97 : decode cL_areEditions 97 = .ok (.aload_n 0, 1) := by decide +kernel
theorem dL_areEditions_98 : decode cL_areEditions 98 = .ok (.iload 4, 2) := by decide +kernel
theorem dL_areEditions_100 : decode cL_areEditions 100 = .ok (.iload_n 1, 1) := by decide +kernel
theorem dL_areEditions_101 : decode cL_areEditions 101 = .ok (.iconst 1, 1) := by decide +kernel
theorem dL_areEditions_102 : decode cL_areEditions 102 = .ok (.iadd, 1) := by decide +kernel
theorem dL_areEditions_103 : decode cL_areEditions 103 = .ok (.invokevirtual 61, 3) := by decide +kernel
theorem dL_areEditions_106 : decode cL_areEditions 106 = .ok (.iconst (-1), 1) := by decide +kernel
theorem dL_areEditions_107 : decode cL_areEditions 107 = .ok (.if_icmp .ne 7, 3) := by decide +kernel
theorem dL_areEditions_110 : decode cL_areEditions 110 = .ok (.iconst 1, 1) := by decide +kernel
theorem dL_areEditions_111 : decode cL_areEditions 111 = .ok (.goto 4, 3) := by decide +kernel
theorem dL_areEditions_114 : decode cL_areEditions 114 = .ok (.iconst 0, 1) := by decide +kernel
theorem dL_areEditions_115 : decode cL_areEditions 115 = .ok (.istore_n 2, 1) := by decide +kernel
theorem dL_areEditions_116 : decode cL_areEditions 116 = .ok (.iinc 3 1, 3) := by decide +kernel
theorem dL_areEditions_119 : decode cL_areEditions 119 = .ok (.goto (-94), 3) := by decide +kernel
theorem dL_areEditions_122 : decode cL_areEditions 122 = .ok (.iconst 1, 1) := by decide +kernel
theorem dL_areEditions_123 : decode cL_areEditions 123 = .ok (.istore_n 3, 1) := by decide +kernel
theorem dL_areEditions_124 : decode cL_areEditions 124 = .ok (.iload_n 3, 1) := by decide +kernel
theorem dL_areEditions_125 : decode cL_areEditions 125 = .ok (.iload_n 1, 1) := by decide +kernel
theorem dL_areEditions_126 : decode cL_areEditions 126 = .ok (.if_icmp .gt 288, 3) := by decide +kernel
theorem dL_areEditions_129 : decode cL_areEditions 129 = .ok (.iload_n 2, 1) := by decide +kernel
theorem dL_areEditions_130 : decode cL_areEditions 130 = .ok (.ifCond .eq 284, 3) := by decide +kernel
theorem dL_areEditions_133 : decode cL_areEditions 133 = .ok (.iconst 0, 1) := by decide +kernel
theorem dL_areEditions_134 : decode cL_areEditions 134 = .ok (.istore 4, 2) := by decide +kernel
theorem dL_areEditions_136 : decode cL_areEditions 136 = .ok (.iload_n 3, 1) := by decide +kernel
theorem dL_areEditions_137 : decode cL_areEditions 137 = .ok (.iconst 1, 1) := by decide +kernel
theorem dL_areEditions_138 : decode cL_areEditions 138 = .ok (.if_icmp .ne 7, 3) := by decide +kernel
theorem dL_areEditions_141 : decode cL_areEditions 141 = .ok (.iconst 0, 1) := by decide +kernel
theorem dL_areEditions_142 : decode cL_areEditions 142 = .ok (.goto 10, 3) := by decide +kernel
theorem dL_areEditions_145 : decode cL_areEditions 145 = .ok (.aload_n 0, 1) := by decide +kernel
theorem dL_areEditions_146 : decode cL_areEditions 146 = .ok (.iload_n 3, 1) := by decide +kernel
theorem dL_areEditions_147 : decode cL_areEditions 147 = .ok (.iconst 0, 1) := by decide +kernel
theorem dL_areEditions_148 : decode cL_areEditions 148 = .ok (.iconst 1, 1) := by decide +kernel
theorem dL_areEditions_149 : decode cL_areEditions 149 = .ok (.invokevirtual 38, 3) := by decide +kernel
theorem dL_areEditions_152 : decode cL_areEditions 152 = .ok (.istore 5, 2) := by decide +kernel
theorem dL_areEditions_154 : decode cL_areEditions 154 = .ok (.iconst 0, 1) := by decide +kernel
theorem dL_areEditions_155 : decode cL_areEditions 155 = .ok (.istore 6, 2) := by decide +kernel
theorem dL_areEditions_157 : decode cL_areEditions 157 = .ok (.iload 6, 2) := by decide +kernel
theorem dL_areEditions_159 : decode cL_areEditions 159 = .ok (.aload_n 0, 1) := by decide +kernel
theorem dL_areEditions_160 : decode cL_areEditions 160 = .ok (.iconst 1, 1) := by decide +kernel
theorem dL_areEditions_161 : decode cL_areEditions 161 = .ok (.invokevirtual 13, 3) := by decide +kernel
theorem dL_areEditions_164 : decode cL_areEditions 164 = .ok (.if_icmp .ge 201, 3) := by decide +kernel
theorem dL_areEditions_167 : decode cL_areEditions 167 = .ok (.iload_n 2, 1) := by decide +kernel
theorem dL_areEditions_168 : decode cL_areEditions 168 = .ok (.ifCond .eq 197, 3) := by decide +kernel
theorem dL_areEditions_171 : decode cL_areEditions 171 = .ok (.aload_n 0, 1) := by decide +kernel
theorem dL_areEditions_172 : decode cL_areEditions 172 = .ok (.iload 6, 2) := by decide +kernel
theorem dL_areEditions_174 : decode cL_areEditions 174 = .ok (.invokevirtual 26, 3) := by decide +kernel
theorem dL_areEditions_177 : decode cL_areEditions 177 = .ok (.istore 7, 2) := by decide +kernel
theorem dL_areEditions_179 : decode cL_areEditions 179 = .ok (.iload_n 3, 1) := by decide +kernel
theorem dL_areEditions_180 : decode cL_areEditions 180 = .ok (.iconst 1, 1) := by decide +kernel
theorem dL_areEditions_181 : decode cL_areEditions 181 = .ok (.if_icmp .le 178, 3) := by decide +kernel
theorem dL_areEditions_184 : decode cL_areEditions 184 = .ok (.aload_n 0, 1) := by decide +kernel
theorem dL_areEditions_185 : decode cL_areEditions 185 = .ok (.iload 7, 2) := by decide +kernel
theorem dL_areEditions_187 : decode cL_areEditions 187 = .ok (.iload_n 3, 1) := by decide +kernel
theorem dL_areEditions_188 : decode cL_areEditions 188 = .ok (.invokevirtual 61, 3) := by decide +kernel
theorem dL_areEditions_191 : decode cL_areEditions 191 = .ok (.aload_n 0, 1) := by decide +kernel
theorem dL_areEditions_192 : decode cL_areEditions 192 = .ok (.iload 7, 2) := by decide +kernel
theorem dL_areEditions_194 : decode cL_areEditions 194 = .ok (.iload_n 3, 1) := by decide +kernel
theorem dL_areEditions_195 : decode cL_areEditions 195 = .ok (.iconst 1, 1) := by decide +kernel
theorem dL_areEditions_196 : decode cL_areEditions 196 = .ok (.isub, 1) := by decide +kernel
theorem dL_areEditions_197 : decode cL_areEditions 197 = .ok (.invokevirtual 61, 3) := by decide +kernel
theorem dL_areEditions_200 : decode cL_areEditions 200 = .ok (.if_icmp .eq 159, 3) := by decide +kernel
theorem dL_areEditions_203 : decode cL_areEditions 203 = .ok (.aload_n 0, 1) := by decide +kernel
theorem dL_areEditions_204 : decode cL_areEditions 204 = .ok (.iload_n 3, 1) := by decide +kernel
theorem dL_areEditions_205 : decode cL_areEditions 205 = .ok (.iload 4, 2) := by decide +kernel
theorem dL_areEditions_207 : decode cL_areEditions 207 = .ok (.iconst 2, 1) := by decide +kernel
theorem dL_areEditions_208 : decode cL_areEditions 208 = .ok (.invokevirtual 38, 3) := by decide +kernel
theorem dL_areEditions_211 : decode cL_areEditions 211 = .ok (.istore 8, 2) := by decide +kernel
theorem dL_areEditions_213 : decode cL_areEditions 213 = .ok (.aload_n 0, 1) := by decide +kernel
theorem dL_areEditions_214 : decode cL_areEditions 214 = .ok (.iload_n 3, 1) := by decide +kernel
theorem dL_areEditions_215 : decode cL_areEditions 215 = .ok (.iload 4, 2) := by decide +kernel
theorem dL_areEditions_217 : decode cL_areEditions 217 = .ok (.iconst 0, 1) := by decide +kernel
theorem dL_areEditions_218 : decode cL_areEditions 218 = .ok (.invokevirtual 38, 3) := by decide +kernel
theorem dL_areEditions_221 : decode cL_areEditions 221 = .ok (.iload 7, 2) := by decide +kernel
theorem dL_areEditions_223 : decode cL_areEditions 223 = .ok (.if_icmp .ne 47, 3) := by decide +kernel
theorem dL_areEditions_226 : decode cL_areEditions 226 = .ok (.aload_n 0, 1) := by decide +kernel
theorem dL_areEditions_227 : decode cL_areEditions 227 = .ok (.iload_n 3, 1) := by decide +kernel
theorem dL_areEditions_228 : decode cL_areEditions 228 = .ok (.iload 4, 2) := by decide +kernel
theorem dL_areEditions_230 : decode cL_areEditions 230 = .ok (.iconst 1, 1) := by decide +kernel
theorem dL_areEditions_231 : decode cL_areEditions 231 = .ok (.invokevirtual 38, 3) := by decide +kernel
theorem dL_areEditions_234 : decode cL_areEditions 234 = .ok (.iload 5, 2) := by decide +kernel
theorem dL_areEditions_236 : decode cL_areEditions 236 = .ok (.if_icmp .ne 34, 3) := by decide +kernel
theorem dL_areEditions_239 : decode cL_areEditions 239 = .ok (.iload 5, 2) := by decide +kernel
theorem dL_areEditions_241 : decode cL_areEditions 241 = .ok (.ifCond .le 29, 3) := by decide +kernel
theorem dL_areEditions_244 : decode cL_areEditions 244 = .ok (.iload 5, 2) := by decide +kernel
theorem dL_areEditions_246 : decode cL_areEditions 246 = .ok (.aload_n 0, 1) := by decide +kernel
theorem dL_areEditions_247 : decode cL_areEditions 247 = .ok (.iconst 5, 1) := by decide +kernel
theorem dL_areEditions_248 : decode cL_areEditions 248 = .ok (.invokevirtual 13, 3) := by decide +kernel
theorem dL_areEditions_251 : decode cL_areEditions 251 = .ok (.if_icmp .gt 19, 3) := by decide +kernel
theorem dL_areEditions_254 : decode cL_areEditions 254 = .ok (.iload 8, 2) := by decide +kernel
theorem dL_areEditions_256 : decode cL_areEditions 256 = .ok (.ifCond .lt 14, 3) := by decide +kernel
theorem dL_areEditions_259 : decode cL_areEditions 259 = .ok (.iload 8, 2) := by decide +kernel
theorem dL_areEditions_261 : decode cL_areEditions 261 = .ok (.bipush 30, 2) := by decide +kernel
theorem dL_areEditions_263 : decode cL_areEditions 263 = .ok (.if_icmp .ge 7, 3) := by decide +kernel
theorem dL_areEditions_266 : decode cL_areEditions 266 = .ok (.iconst 1, 1) := by decide +kernel
theorem dL_areEditions_267 : decode cL_areEditions 267 = .ok (.goto 4, 3) := by decide +kernel
theorem dL_areEditions_270 : decode cL_areEditions 270 = .ok (.iconst 0, 1) := by decide +kernel
theorem dL_areEditions_271 : decode cL_areEditions 271 = .ok (.istore_n 2, 1) := by decide +kernel
theorem dL_areEditions_272 : decode cL_areEditions 272 = .ok (.iload 5, 2) := by decide +kernel
theorem dL_areEditions_274 : decode cL_areEditions 274 = .ok (.aload_n 0, 1) := by decide +kernel
theorem dL_areEditions_275 : decode cL_areEditions 275 = .ok (.iconst 5, 1) := by decide +kernel
theorem dL_areEditions_276 : decode cL_areEditions 276 = .ok (.invokevirtual 13, 3) := by decide +kernel
theorem dL_areEditions_279 : decode cL_areEditions 279 = .ok (.if_icmp .ne 29, 3) := by decide +kernel
theorem dL_areEditions_282 : decode cL_areEditions 282 = .ok (.aload_n 0, 1) := by decide +kernel
theorem dL_areEditions_283 : decode cL_areEditions 283 = .ok (.iconst 4, 1) := by decide +kernel
theorem dL_areEditions_284 : decode cL_areEditions 284 = .ok (.invokevirtual 13, 3) := by decide +kernel
theorem dL_areEditions_287 : decode cL_areEditions 287 = .ok (.ifCond .ne 21, 3) := by decide +kernel
theorem dL_areEditions_290 : decode cL_areEditions 290 = .ok (.aload_n 0, 1) := by decide +kernel
theorem dL_areEditions_291 : decode cL_areEditions 291 = .ok (.bipush 7, 2) := by decide +kernel
theorem dL_areEditions_293 : decode cL_areEditions 293 = .ok (.invokevirtual 13, 3) := by decide +kernel
theorem dL_areEditions_296 : decode cL_areEditions 296 = .ok (.ifCond .ne 12, 3) := by decide +kernel
theorem dL_areEditions_299 : decode cL_areEditions 299 = .ok (.iload_n 3, 1) := by decide +kernel
theorem dL_areEditions_300 : decode cL_areEditions 300 = .ok (.iload_n 1, 1) := by decide +kernel
theorem dL_areEditions_301 : decode cL_areEditions 301 = .ok (.if_icmp .ne 7, 3) := by decide +kernel
theorem dL_areEditions_304 : decode cL_areEditions 304 = .ok (.iconst 1, 1) := by decide +kernel
theorem dL_areEditions_305 : decode cL_areEditions 305 = .ok (.goto 4, 3) := by decide +kernel
theorem dL_areEditions_308 : decode cL_areEditions 308 = .ok (.iconst 0, 1) := by decide +kernel
theorem dL_areEditions_309 : decode cL_areEditions 309 = .ok (.istore 9, 2) := by decide +kernel
theorem dL_areEditions_311 : decode cL_areEditions 311 = .ok (.iload_n 2, 1) := by decide +kernel
theorem dL_areEditions_312 : decode cL_areEditions 312 = .ok (.ifCond .eq 42, 3) := by decide +kernel
theorem dL_areEditions_315 : decode cL_areEditions 315 = .ok (.iload 9, 2) := by decide +kernel
theorem dL_areEditions_317 : decode cL_areEditions 317 = .ok (.ifCond .eq 33, 3) := by decide +kernel
theorem dL_areEditions_320 : decode cL_areEditions 320 = .ok (.aload_n 0, 1) := by decide +kernel
theorem dL_areEditions_321 : decode cL_areEditions 321 = .ok (.iload 8, 2) := by decide +kernel
theorem dL_areEditions_323 : decode cL_areEditions 323 = .ok (.iconst 1, 1) := by decide +kernel
theorem dL_areEditions_324 : decode cL_areEditions 324 = .ok (.invokevirtual 32, 3) := by decide +kernel
theorem dL_areEditions_327 : decode cL_areEditions 327 = .ok (.iload 7, 2) := by decide +kernel
theorem dL_areEditions_329 : decode cL_areEditions 329 = .ok (.if_icmp .ne 25, 3) := by decide +kernel
theorem dL_areEditions_332 : decode cL_areEditions 332 = .ok (.aload_n 0, 1) := by decide +kernel
theorem dL_areEditions_333 : decode cL_areEditions 333 = .ok (.iload 8, 2) := by decide +kernel
theorem dL_areEditions_335 : decode cL_areEditions 335 = .ok (.bipush 6, 2) := by decide +kernel
theorem dL_areEditions_337 : decode cL_areEditions 337 = .ok (.invokevirtual 32, 3) := by decide +kernel
theorem dL_areEditions_340 : decode cL_areEditions 340 = .ok (.aload_n 0, 1) := by decide +kernel
theorem dL_areEditions_341 : decode cL_areEditions 341 = .ok (.iload 7, 2) := by decide +kernel
theorem dL_areEditions_343 : decode cL_areEditions 343 = .ok (.iload_n 3, 1) := by decide +kernel
theorem dL_areEditions_344 : decode cL_areEditions 344 = .ok (.invokevirtual 61, 3) := by decide +kernel
theorem dL_areEditions_347 : decode cL_areEditions 347 = .ok (.if_icmp .ne 7, 3) := by decide +kernel
theorem dL_areEditions_350 : decode cL_areEditions 350 = .ok (.iconst 1, 1) := by decide +kernel
theorem dL_areEditions_351 : decode cL_areEditions 351 = .ok (.goto 4, 3) := by decide +kernel
theorem dL_areEditions_354 : decode cL_areEditions 354 = .ok (.iconst 0, 1) := by decide +kernel
theorem dL_areEditions_355 : decode cL_areEditions 355 = .ok (.istore_n 2, 1) := by decide +kernel
theorem dL_areEditions_356 : decode cL_areEditions 356 = .ok (.iinc 4 1, 3) := by decide +kernel
theorem dL_areEditions_359 : decode cL_areEditions 359 = .ok (.iinc 6 1, 3) := by decide +kernel
theorem dL_areEditions_362 : decode cL_areEditions 362 = .ok (.goto (-205), 3) := by decide +kernel
theorem dL_areEditions_365 : decode cL_areEditions 365 = .ok (.iload_n 2, 1) := by decide +kernel
theorem dL_areEditions_366 : decode cL_areEditions 366 = .ok (.ifCond .eq 40, 3) := by decide +kernel
theorem dL_areEditions_369 : decode cL_areEditions 369 = .ok (.aload_n 0, 1) := by decide +kernel
theorem dL_areEditions_370 : decode cL_areEditions 370 = .ok (.iload_n 3, 1) := by decide +kernel
theorem dL_areEditions_371 : decode cL_areEditions 371 = .ok (.invokevirtual 35, 3) := by decide +kernel
theorem dL_areEditions_374 : decode cL_areEditions 374 = .ok (.iload 4, 2) := by decide +kernel
theorem dL_areEditions_376 : decode cL_areEditions 376 = .ok (.if_icmp .ne 30, 3) := by decide +kernel
theorem dL_areEditions_379 : decode cL_areEditions 379 = .ok (.iload_n 3, 1) := by decide +kernel
theorem dL_areEditions_380 : decode cL_areEditions 380 = .ok (.iconst 1, 1) := by decide +kernel
theorem dL_areEditions_381 : decode cL_areEditions 381 = .ok (.if_icmp .eq 8, 3) := by decide +kernel
theorem dL_areEditions_384 : decode cL_areEditions 384 = .ok (.iload 4, 2) := by decide +kernel
theorem dL_areEditions_386 : decode cL_areEditions 386 = .ok (.ifCond .le 20, 3) := by decide +kernel
theorem dL_areEditions_389 : decode cL_areEditions 389 = .ok (.aload_n 0, 1) := by decide +kernel
theorem dL_areEditions_390 : decode cL_areEditions 390 = .ok (.iload_n 3, 1) := by decide +kernel
theorem dL_areEditions_391 : decode cL_areEditions 391 = .ok (.iload 4, 2) := by decide +kernel
theorem dL_areEditions_393 : decode cL_areEditions 393 = .ok (.iconst 0, 1) := by decide +kernel
theorem dL_areEditions_394 : decode cL_areEditions 394 = .ok (.invokevirtual 38, 3) := by decide +kernel
theorem dL_areEditions_397 : decode cL_areEditions 397 = .ok (.bipush (-4), 2) := by decide +kernel
theorem dL_areEditions_399 : decode cL_areEditions 399 = .ok (.if_icmp .ne 7, 3) := by decide +kernel
theorem dL_areEditions_402 : decode cL_areEditions 402 = .ok (.iconst 1, 1) := by decide +kernel
theorem dL_areEditions_403 : decode cL_areEditions 403 = .ok (.goto 4, 3) := by decide +kernel
theorem dL_areEditions_406 : decode cL_areEditions 406 = .ok (.iconst 0, 1) := by decide +kernel
theorem dL_areEditions_407 : decode cL_areEditions 407 = .ok (.istore_n 2, 1) := by decide +kernel
theorem dL_areEditions_408 : decode cL_areEditions 408 = .ok (.iinc 3 1, 3) := by decide +kernel
theorem dL_areEditions_411 : decode cL_areEditions 411 = .ok (.goto (-287), 3) := by decide +kernel
theorem dL_areEditions_414 : decode cL_areEditions 414 = .ok (.iload_n 2, 1) := by decide +kernel
theorem dL_areEditions_415 : decode cL_areEditions 415 = .ok (.ireturn, 1) := by decide +kernel
theorem dL_isAppealed_0 : decode cL_isAppealed 0 = .ok (.iconst 1, 1) := by decide +kernel
theorem dL_isAppealed_1 : decode cL_isAppealed 1 = .ok (.aload_n 0, 1) := by decide +kernel
theorem dL_isAppealed_2 : decode cL_isAppealed 2 = .ok (.iconst 0, 1) := by decide +kernel
theorem dL_isAppealed_3 : decode cL_isAppealed 3 = .ok (.invokevirtual 13, 3) := by decide +kernel
theorem dL_isAppealed_6 : decode cL_isAppealed 6 = .ok (.ishl, 1) := by decide +kernel
theorem dL_isAppealed_7 : decode cL_isAppealed 7 = .ok (.iconst 1, 1) := by decide +kernel
theorem dL_isAppealed_8 : decode cL_isAppealed 8 = .ok (.isub, 1) := by decide +kernel
theorem dL_isAppealed_9 : decode cL_isAppealed 9 = .ok (.istore_n 2, 1) := by decide +kernel
theorem dL_isAppealed_10 : decode cL_isAppealed 10 = .ok (.aload_n 0, 1) := by decide +kernel
theorem dL_isAppealed_11 : decode cL_isAppealed 11 = .ok (.bipush 6, 2) := by decide +kernel
theorem dL_isAppealed_13 : decode cL_isAppealed 13 = .ok (.invokevirtual 13, 3) := by decide +kernel
theorem dL_isAppealed_16 : decode cL_isAppealed 16 = .ok (.ifCond .eq 12, 3) := by decide +kernel
theorem dL_isAppealed_19 : decode cL_isAppealed 19 = .ok (.aload_n 0, 1) := by decide +kernel
theorem dL_isAppealed_20 : decode cL_isAppealed 20 = .ok (.iconst 4, 1) := by decide +kernel
theorem dL_isAppealed_21 : decode cL_isAppealed 21 = .ok (.invokevirtual 13, 3) := by decide +kernel
theorem dL_isAppealed_24 : decode cL_isAppealed 24 = .ok (.iconst 1, 1) := by decide +kernel
theorem dL_isAppealed_25 : decode cL_isAppealed 25 = .ok (.if_icmp .ne 5, 3) := by decide +kernel
theorem dL_isAppealed_28 : decode cL_isAppealed 28 = .ok (.iconst 1, 1) := by decide +kernel
theorem dL_isAppealed_29 : decode cL_isAppealed 29 = .ok (.ireturn, 1) := by decide +kernel
theorem dL_isAppealed_30 : decode cL_isAppealed 30 = .ok (.aload_n 0, 1) := by decide +kernel
theorem dL_isAppealed_31 : decode cL_isAppealed 31 = .ok (.invokestatic 46, 3) := by decide +kernel
theorem dL_isAppealed_34 : decode cL_isAppealed 34 = .ok (.lstore_n 3, 1) := by decide +kernel
theorem dL_isAppealed_35 : decode cL_isAppealed 35 = .ok (.aload_n 0, 1) := by decide +kernel
theorem dL_isAppealed_36 : decode cL_isAppealed 36 = .ok (.bipush 9, 2) := by decide +kernel
theorem dL_isAppealed_38 : decode cL_isAppealed 38 = .ok (.invokevirtual 13, 3) := by decide +kernel
theorem dL_isAppealed_41 : decode cL_isAppealed 41 = .ok (.istore 5, 2) := by decide +kernel
theorem dL_isAppealed_43 : decode cL_isAppealed 43 = .ok (.iload_n 1, 1) := by decide +kernel
theorem dL_isAppealed_44 : decode cL_isAppealed 44 = .ok (.aload_n 0, 1) := by decide +kernel
theorem dL_isAppealed_45 : decode cL_isAppealed 45 = .ok (.bipush 6, 2) := by decide +kernel
theorem dL_isAppealed_47 : decode cL_isAppealed 47 = .ok (.invokevirtual 13, 3) := by decide +kernel
theorem dL_isAppealed_50 : decode cL_isAppealed 50 = .ok (.invokestatic 95, 3) := by decide +kernel
theorem dL_isAppealed_53 : decode cL_isAppealed 53 = .ok (.istore 6, 2) := by decide +kernel
theorem dL_isAppealed_55 : decode cL_isAppealed 55 = .ok (.aload_n 0, 1) := by decide +kernel
theorem dL_isAppealed_56 : decode cL_isAppealed 56 = .ok (.iload 6, 2) := by decide +kernel
theorem dL_isAppealed_58 : decode cL_isAppealed 58 = .ok (.iconst 4, 1) := by decide +kernel
theorem dL_isAppealed_59 : decode cL_isAppealed 59 = .ok (.invokevirtual 32, 3) := by decide +kernel
theorem dL_isAppealed_62 : decode cL_isAppealed 62 = .ok (.istore 7, 2) := by decide +kernel
theorem dL_isAppealed_64 : decode cL_isAppealed 64 = .ok (.aload_n 0, 1) := by decide +kernel
theorem dL_isAppealed_65 : decode cL_isAppealed 65 = .ok (.bipush 7, 2) := by decide +kernel
theorem dL_isAppealed_67 : decode cL_isAppealed 67 = .ok (.invokevirtual 13, 3) := by decide +kernel
theorem dL_isAppealed_70 : decode cL_isAppealed 70 = .ok (.istore 8, 2) := by decide +kernel
theorem dL_isAppealed_72 : decode cL_isAppealed 72 = .ok (.aload_n 0, 1) := by decide +kernel
theorem dL_isAppealed_73 : decode cL_isAppealed 73 = .ok (.iconst 2, 1) := by decide +kernel
theorem dL_isAppealed_74 : decode cL_isAppealed 74 = .ok (.invokevirtual 13, 3) := by decide +kernel
theorem dL_isAppealed_77 : decode cL_isAppealed 77 = .ok (.istore 9, 2) := by decide +kernel
theorem dL_isAppealed_79 : decode cL_isAppealed 79 = .ok (.iload 7, 2) := by decide +kernel
theorem dL_isAppealed_81 : decode cL_isAppealed 81 = .ok (.iconst 2, 1) := by decide +kernel
theorem dL_isAppealed_82 : decode cL_isAppealed 82 = .ok (.if_icmp .lt 25, 3) := by decide +kernel
theorem dL_isAppealed_85 : decode cL_isAppealed 85 = .ok (.aload_n 0, 1) := by decide +kernel
theorem dL_isAppealed_86 : decode cL_isAppealed 86 = .ok (.iconst 3, 1) := by decide +kernel
theorem dL_isAppealed_87 : decode cL_isAppealed 87 = .ok (.invokevirtual 13, 3) := by decide +kernel
theorem dL_isAppealed_90 : decode cL_isAppealed 90 = .ok (.aload_n 0, 1) := by decide +kernel
theorem dL_isAppealed_91 : decode cL_isAppealed 91 = .ok (.iload 6, 2) := by decide +kernel
theorem dL_isAppealed_93 : decode cL_isAppealed 93 = .ok (.iconst 5, 1) := by decide +kernel
theorem dL_isAppealed_94 : decode cL_isAppealed 94 = .ok (.invokevirtual 32, 3) := by decide +kernel
theorem dL_isAppealed_97 : decode cL_isAppealed 97 = .ok (.aload_n 0, 1) := by decide +kernel
theorem dL_isAppealed_98 : decode cL_isAppealed 98 = .ok (.bipush 23, 2) := by decide +kernel
theorem dL_isAppealed_100 : decode cL_isAppealed 100 = .ok (.invokevirtual 13, 3) := by decide +kernel
theorem dL_isAppealed_103 : decode cL_isAppealed 103 = .ok (.iadd, 1) := by decide +kernel
theorem dL_isAppealed_104 : decode cL_isAppealed 104 = .ok (.if_icmp .le 7, 3) := by decide +kernel
theorem dL_isAppealed_107 : decode cL_isAppealed 107 = .ok (.iconst 1, 1) := by decide +kernel
theorem dL_isAppealed_108 : decode cL_isAppealed 108 = .ok (.goto 4, 3) := by decide +kernel
theorem dL_isAppealed_111 : decode cL_isAppealed 111 = .ok (.iconst 0, 1) := by decide +kernel
theorem dL_isAppealed_112 : decode cL_isAppealed 112 = .ok (.istore 10, 2) := by decide +kernel
theorem dL_isAppealed_114 : decode cL_isAppealed 114 = .ok (.aload_n 0, 1) := by decide +kernel
theorem dL_isAppealed_115 : decode cL_isAppealed 115 = .ok (.iload 6, 2) := by decide +kernel
theorem dL_isAppealed_117 : decode cL_isAppealed 117 = .ok (.iconst 0, 1) := by decide +kernel
theorem dL_isAppealed_118 : decode cL_isAppealed 118 = .ok (.iload_n 2, 1) := by decide +kernel
theorem dL_isAppealed_119 : decode cL_isAppealed 119 = .ok (.invokevirtual 77, 3) := by decide +kernel
theorem dL_isAppealed_122 : decode cL_isAppealed 122 = .ok (.istore 11, 2) := by decide +kernel
theorem dL_isAppealed_124 : decode cL_isAppealed 124 = .ok (.iload 10, 2) := by decide +kernel
theorem dL_isAppealed_126 : decode cL_isAppealed 126 = .ok (.ifCond .eq 36, 3) := by decide +kernel
theorem dL_isAppealed_129 : decode cL_isAppealed 129 = .ok (.iload 11, 2) := by decide +kernel
theorem dL_isAppealed_131 : decode cL_isAppealed 131 = .ok (.bipush (-2), 2) := by decide +kernel
theorem dL_isAppealed_133 : decode cL_isAppealed 133 = .ok (.if_icmp .ne 27, 3) := by decide +kernel
theorem dL_isAppealed_136 : decode cL_isAppealed 136 = .ok (.aload_n 0, 1) := by decide +kernel
theorem dL_isAppealed_137 : decode cL_isAppealed 137 = .ok (.invokestatic 46, 3) := by decide +kernel
theorem dL_isAppealed_140 : decode cL_isAppealed 140 = .ok (.lload_n 3, 1) := by decide +kernel
theorem dL_isAppealed_141 : decode cL_isAppealed 141 = .ok (.lcmp, 1) := by decide +kernel
theorem dL_isAppealed_142 : decode cL_isAppealed 142 = .ok (.ifCond .ne 18, 3) := by decide +kernel
theorem dL_isAppealed_145 : decode cL_isAppealed 145 = .ok (.aload_n 0, 1) := by decide +kernel
theorem dL_isAppealed_146 : decode cL_isAppealed 146 = .ok (.bipush 9, 2) := by decide +kernel
theorem dL_isAppealed_148 : decode cL_isAppealed 148 = .ok (.invokevirtual 13, 3) := by decide +kernel
theorem dL_isAppealed_151 : decode cL_isAppealed 151 = .ok (.iload 5, 2) := by decide +kernel
theorem dL_isAppealed_153 : decode cL_isAppealed 153 = .ok (.if_icmp .ne 7, 3) := by decide +kernel
theorem dL_isAppealed_156 : decode cL_isAppealed 156 = .ok (.iconst 1, 1) := by decide +kernel
theorem dL_isAppealed_157 : decode cL_isAppealed 157 = .ok (.goto 4, 3) := by decide +kernel
theorem dL_isAppealed_160 : decode cL_isAppealed 160 = .ok (.iconst 0, 1) := by decide +kernel
theorem dL_isAppealed_161 : decode cL_isAppealed 161 = .ok (.ireturn, 1) := by decide +kernel
theorem dL_isAppealed_162 : decode cL_isAppealed 162 = .ok (.iload 11, 2) := by decide +kernel
theorem dL_isAppealed_164 : decode cL_isAppealed 164 = .ok (.aload_n 0, 1) := by decide +kernel
theorem dL_isAppealed_165 : decode cL_isAppealed 165 = .ok (.bipush 8, 2) := by decide +kernel
theorem dL_isAppealed_167 : decode cL_isAppealed 167 = .ok (.invokevirtual 13, 3) := by decide +kernel
theorem dL_isAppealed_170 : decode cL_isAppealed 170 = .ok (.ifCond .le 7, 3) := by decide +kernel
theorem dL_isAppealed_173 : decode cL_isAppealed 173 = .ok (.iconst 1, 1) := by decide +kernel
theorem dL_isAppealed_174 : decode cL_isAppealed 174 = .ok (.goto 4, 3) := by decide +kernel
theorem dL_isAppealed_177 : decode cL_isAppealed 177 = .ok (.iconst 0, 1) := by decide +kernel
theorem dL_isAppealed_178 : decode cL_isAppealed 178 = .ok (.if_icmp .ne 7, 3) := by decide +kernel
theorem dL_isAppealed_181 : decode cL_isAppealed 181 = .ok (.iconst 1, 1) := by decide +kernel
theorem dL_isAppealed_182 : decode cL_isAppealed 182 = .ok (.goto 4, 3) := by decide +kernel
theorem dL_isAppealed_185 : decode cL_isAppealed 185 = .ok (.iconst 0, 1) := by decide +kernel
theorem dL_isAppealed_186 : decode cL_isAppealed 186 = .ok (.istore 12, 2) := by decide +kernel
theorem dL_isAppealed_188 : decode cL_isAppealed 188 = .ok (.iload 12, 2) := by decide +kernel
theorem dL_isAppealed_190 : decode cL_isAppealed 190 = .ok (.ifCond .eq 76, 3) := by decide +kernel
theorem dL_isAppealed_193 : decode cL_isAppealed 193 = .ok (.iload 11, 2) := by decide +kernel
theorem dL_isAppealed_195 : decode cL_isAppealed 195 = .ok (.iconst 1, 1) := by decide +kernel
theorem dL_isAppealed_196 : decode cL_isAppealed 196 = .ok (.if_icmp .ne 70, 3) := by decide +kernel
theorem dL_isAppealed_199 : decode cL_isAppealed 199 = .ok (.aload_n 0, 1) := by decide +kernel
theorem dL_isAppealed_200 : decode cL_isAppealed 200 = .ok (.iload 6, 2) := by decide +kernel
theorem dL_isAppealed_202 : decode cL_isAppealed 202 = .ok (.iconst 4, 1) := by decide +kernel
theorem dL_isAppealed_203 : decode cL_isAppealed 203 = .ok (.invokevirtual 32, 3) := by decide +kernel
theorem dL_isAppealed_206 : decode cL_isAppealed 206 = .ok (.iconst 1, 1) := by decide +kernel
theorem dL_isAppealed_207 : decode cL_isAppealed 207 = .ok (.if_icmp .ne 56, 3) := by decide +kernel
theorem dL_isAppealed_210 : decode cL_isAppealed 210 = .ok (.aload_n 0, 1) := by decide +kernel
theorem dL_isAppealed_211 : decode cL_isAppealed 211 = .ok (.bipush 7, 2) := by decide +kernel
theorem dL_isAppealed_213 : decode cL_isAppealed 213 = .ok (.invokevirtual 13, 3) := by decide +kernel
theorem dL_isAppealed_216 : decode cL_isAppealed 216 = .ok (.iload 8, 2) := by decide +kernel
theorem dL_isAppealed_218 : decode cL_isAppealed 218 = .ok (.iconst 1, 1) := by decide +kernel
theorem dL_isAppealed_219 : decode cL_isAppealed 219 = .ok (.iadd, 1) := by decide +kernel
theorem dL_isAppealed_220 : decode cL_isAppealed 220 = .ok (.if_icmp .ne 43, 3) := by decide +kernel
theorem dL_isAppealed_223 : decode cL_isAppealed 223 = .ok (.aload_n 0, 1) := by decide +kernel
theorem dL_isAppealed_224 : decode cL_isAppealed 224 = .ok (.iconst 2, 1) := by decide +kernel
theorem dL_isAppealed_225 : decode cL_isAppealed 225 = .ok (.invokevirtual 13, 3) := by decide +kernel
theorem dL_isAppealed_228 : decode cL_isAppealed 228 = .ok (.iload 9, 2) := by decide +kernel
theorem dL_isAppealed_230 : decode cL_isAppealed 230 = .ok (.if_icmp .eq 15, 3) := by decide +kernel
theorem dL_isAppealed_233 : decode cL_isAppealed 233 = .ok (.aload_n 0, 1) := by decide +kernel
theorem dL_isAppealed_234 : decode cL_isAppealed 234 = .ok (.iconst 2, 1) := by decide +kernel
theorem dL_isAppealed_235 : decode cL_isAppealed 235 = .ok (.invokevirtual 13, 3) := by decide +kernel
theorem dL_isAppealed_238 : decode cL_isAppealed 238 = .ok (.iload 9, 2) := by decide +kernel
theorem dL_isAppealed_240 : decode cL_isAppealed 240 = .ok (.iconst 1, 1) := by decide +kernel
theorem dL_isAppealed_241 : decode cL_isAppealed 241 = .ok (.isub, 1) := by decide +kernel
theorem dL_isAppealed_242 : decode cL_isAppealed 242 = .ok (.if_icmp .ne 21, 3) := by decide +kernel
theorem dL_isAppealed_245 : decode cL_isAppealed 245 = .ok (.aload_n 0, 1) := by decide +kernel
theorem dL_isAppealed_246 : decode cL_isAppealed 246 = .ok (.invokestatic 98, 3) := by decide +kernel
theorem dL_isAppealed_249 : decode cL_isAppealed 249 = .ok (.ifCond .eq 14, 3) := by decide +kernel
theorem dL_isAppealed_252 : decode cL_isAppealed 252 = .ok (.aload_n 0, 1) := by decide +kernel
theorem dL_isAppealed_253 : decode cL_isAppealed 253 = .ok (.invokestatic 102, 3) := by decide +kernel
theorem dL_isAppealed_256 : decode cL_isAppealed 256 = .ok (.ifCond .eq 7, 3) := by decide +kernel
theorem dL_isAppealed_259 : decode cL_isAppealed 259 = .ok (.iconst 1, 1) := by decide +kernel
theorem dL_isAppealed_260 : decode cL_isAppealed 260 = .ok (.goto 4, 3) := by decide +kernel
theorem dL_isAppealed_263 : decode cL_isAppealed 263 = .ok (.iconst 0, 1) := by decide +kernel
theorem dL_isAppealed_264 : decode cL_isAppealed 264 = .ok (.istore 12, 2) := by decide +kernel
theorem dL_isAppealed_266 : decode cL_isAppealed 266 = .ok (.iload 12, 2) := by decide +kernel
theorem dL_isAppealed_268 : decode cL_isAppealed 268 = .ok (.ifCond .eq 35, 3) := by decide +kernel
theorem dL_isAppealed_271 : decode cL_isAppealed 271 = .ok (.aload_n 0, 1) := by decide +kernel
theorem dL_isAppealed_272 : decode cL_isAppealed 272 = .ok (.invokevirtual 105, 3) := by decide +kernel
theorem dL_isAppealed_275 : decode cL_isAppealed 275 = .ok (.iload 5, 2) := by decide +kernel
theorem dL_isAppealed_277 : decode cL_isAppealed 277 = .ok (.iconst 4, 1) := by decide +kernel
theorem dL_isAppealed_278 : decode cL_isAppealed 278 = .ok (.if_icmp .ne 7, 3) := by decide +kernel
theorem dL_isAppealed_281 : decode cL_isAppealed 281 = .ok (.iconst 3, 1) := by decide +kernel
theorem dL_isAppealed_282 : decode cL_isAppealed 282 = .ok (.goto 5, 3) := by decide +kernel
theorem dL_isAppealed_285 : decode cL_isAppealed 285 = .ok (.iload 5, 2) := by decide +kernel
theorem dL_isAppealed_287 : decode cL_isAppealed 287 = .ok (.if_icmp .ne 16, 3) := by decide +kernel
theorem dL_isAppealed_290 : decode cL_isAppealed 290 = .ok (.aload_n 0, 1) := by decide +kernel
theorem dL_isAppealed_291 : decode cL_isAppealed 291 = .ok (.invokestatic 46, 3) := by decide +kernel
theorem dL_isAppealed_294 : decode cL_isAppealed 294 = .ok (.lload_n 3, 1) := by decide +kernel
theorem dL_isAppealed_295 : decode cL_isAppealed 295 = .ok (.lcmp, 1) := by decide +kernel
theorem dL_isAppealed_296 : decode cL_isAppealed 296 = .ok (.ifCond .ne 7, 3) := by decide +kernel
theorem dL_isAppealed_299 : decode cL_isAppealed 299 = .ok (.iconst 1, 1) := by decide +kernel
theorem dL_isAppealed_300 : decode cL_isAppealed 300 = .ok (.goto 4, 3) := by decide +kernel
theorem dL_isAppealed_303 : decode cL_isAppealed 303 = .ok (.iconst 0, 1) := by decide +kernel
theorem dL_isAppealed_304 : decode cL_isAppealed 304 = .ok (.ireturn, 1) := by decide +kernel
theorem dL_acts_0 : decode cL_acts 0 = .ok (.aload_n 0, 1) := by decide +kernel
theorem dL_acts_1 : decode cL_acts 1 = .ok (.iconst 0, 1) := by decide +kernel
theorem dL_acts_2 : decode cL_acts 2 = .ok (.invokevirtual 13, 3) := by decide +kernel
theorem dL_acts_5 : decode cL_acts 5 = .ok (.istore_n 3, 1) := by decide +kernel
theorem dL_acts_6 : decode cL_acts 6 = .ok (.aload_n 0, 1) := by decide +kernel
theorem dL_acts_7 : decode cL_acts 7 = .ok (.iconst 1, 1) := by decide +kernel
theorem dL_acts_8 : decode cL_acts 8 = .ok (.invokevirtual 13, 3) := by decide +kernel
theorem dL_acts_11 : decode cL_acts 11 = .ok (.ifCond .ne 7, 3) := by decide +kernel
theorem dL_acts_14 : decode cL_acts 14 = .ok (.iconst 5, 1) := by decide +kernel
theorem dL_acts_15 : decode cL_acts 15 = .ok (.goto 17, 3) := by decide +kernel
theorem dL_acts_18 : decode cL_acts 18 = .ok (.aload_n 0, 1) := by decide +kernel
theorem dL_acts_19 : decode cL_acts 19 = .ok (.iload_n 2, 1) := by decide +kernel
theorem dL_acts_20 : decode cL_acts 20 = .ok (.bipush 16, 2) := by decide +kernel
theorem dL_acts_22 : decode cL_acts 22 = .ok (.idiv, 1) := by decide +kernel
theorem dL_acts_23 : decode cL_acts 23 = .ok (.aload_n 0, 1) := by decide +kernel
theorem dL_acts_24 : decode cL_acts 24 = .ok (.iconst 1, 1) := by decide +kernel
theorem dL_acts_25 : decode cL_acts 25 = .ok (.invokevirtual 13, 3) := by decide +kernel
theorem dL_acts_28 : decode cL_acts 28 = .ok (.irem, 1) := by decide +kernel
theorem dL_acts_29 : decode cL_acts 29 = .ok (.invokevirtual 26, 3) := by decide +kernel
theorem dL_acts_32 : decode cL_acts 32 = .ok (.istore 4, 2) := by decide +kernel
theorem dL_acts_34 : decode cL_acts 34 = .ok (.iload_n 1, 1) := by decide +kernel
theorem dL_acts_35 : decode cL_acts 35 = .ok (.bipush 20, 2) := by decide +kernel
theorem dL_acts_37 : decode cL_acts 37 = .ok (.invokestatic 95, 3) := by decide +kernel
theorem dL_acts_40 : decode cL_acts 40 = .ok (.tableswitch 326 0 16 #[84, 95, 113, 181, 181, 186, 186, 186, 186, 221, 221, 221, 253, 253, 283, 283, 283], 84) := by decide +kernel
theorem dL_acts_124 : decode cL_acts 124 = .ok (.aload_n 0, 1) := by decide +kernel
theorem dL_acts_125 : decode cL_acts 125 = .ok (.iconst 1, 1) := by decide +kernel
theorem dL_acts_126 : decode cL_acts 126 = .ok (.iload_n 2, 1) := by decide +kernel
theorem dL_acts_127 : decode cL_acts 127 = .ok (.bipush 9, 2) := by decide +kernel
theorem dL_acts_129 : decode cL_acts 129 = .ok (.irem, 1) := by decide +kernel
theorem dL_acts_130 : decode cL_acts 130 = .ok (.iadd, 1) := by decide +kernel
theorem dL_acts_131 : decode cL_acts 131 = .ok (.invokevirtual 52, 3) := by decide +kernel
theorem dL_acts_134 : decode cL_acts 134 = .ok (.ireturn, 1) := by decide +kernel
theorem dL_acts_135 : decode cL_acts 135 = .ok (.aload_n 0, 1) := by decide +kernel
theorem dL_acts_136 : decode cL_acts 136 = .ok (.iconst 1, 1) := by decide +kernel
theorem dL_acts_137 : decode cL_acts 137 = .ok (.iload_n 2, 1) := by decide +kernel
theorem dL_acts_138 : decode cL_acts 138 = .ok (.bipush 99, 2) := by decide +kernel
theorem dL_acts_140 : decode cL_acts 140 = .ok (.irem, 1) := by decide +kernel
theorem dL_acts_141 : decode cL_acts 141 = .ok (.iadd, 1) := by decide +kernel
theorem dL_acts_142 : decode cL_acts 142 = .ok (.iload_n 2, 1) := by decide +kernel
theorem dL_acts_143 : decode cL_acts 143 = .ok (.bipush 99, 2) := by decide +kernel
theorem dL_acts_145 : decode cL_acts 145 = .ok (.idiv, 1) := by decide +kernel
theorem dL_acts_146 : decode cL_acts 146 = .ok (.bipush 9, 2) := by decide +kernel
theorem dL_acts_148 : decode cL_acts 148 = .ok (.irem, 1) := by decide +kernel
theorem dL_acts_149 : decode cL_acts 149 = .ok (.invokevirtual 55, 3) := by decide +kernel
theorem dL_acts_152 : decode cL_acts 152 = .ok (.ireturn, 1) := by decide +kernel
theorem dL_acts_153 : decode cL_acts 153 = .ok (.iload_n 2, 1) := by decide +kernel
theorem dL_acts_154 : decode cL_acts 154 = .ok (.iconst 5, 1) := by decide +kernel
theorem dL_acts_155 : decode cL_acts 155 = .ok (.irem, 1) := by decide +kernel
theorem dL_acts_156 : decode cL_acts 156 = .ok (.istore 5, 2) := by decide +kernel
theorem dL_acts_158 : decode cL_acts 158 = .ok (.aload_n 0, 1) := by decide +kernel
theorem dL_acts_159 : decode cL_acts 159 = .ok (.iload 5, 2) := by decide +kernel
theorem dL_acts_161 : decode cL_acts 161 = .ok (.iload 5, 2) := by decide +kernel
theorem dL_acts_163 : decode cL_acts 163 = .ok (.iconst 2, 1) := by decide +kernel
theorem dL_acts_164 : decode cL_acts 164 = .ok (.if_icmp .ge 14, 3) := by decide +kernel
theorem dL_acts_167 : decode cL_acts 167 = .ok (.iconst 1, 1) := by decide +kernel
theorem dL_acts_168 : decode cL_acts 168 = .ok (.iload_n 2, 1) := by decide +kernel
theorem dL_acts_169 : decode cL_acts 169 = .ok (.iconst 5, 1) := by decide +kernel
theorem dL_acts_170 : decode cL_acts 170 = .ok (.idiv, 1) := by decide +kernel
theorem dL_acts_171 : decode cL_acts 171 = .ok (.bipush 100, 2) := by decide +kernel
theorem dL_acts_173 : decode cL_acts 173 = .ok (.irem, 1) := by decide +kernel
theorem dL_acts_174 : decode cL_acts 174 = .ok (.iadd, 1) := by decide +kernel
theorem dL_acts_175 : decode cL_acts 175 = .ok (.goto 42, 3) := by decide +kernel
theorem dL_acts_178 : decode cL_acts 178 = .ok (.iload 5, 2) := by decide +kernel
theorem dL_acts_180 : decode cL_acts 180 = .ok (.iconst 2, 1) := by decide +kernel
theorem dL_acts_181 : decode cL_acts 181 = .ok (.if_icmp .ne 14, 3) := by decide +kernel
theorem dL_acts_184 : decode cL_acts 184 = .ok (.iconst 1, 1) := by decide +kernel
theorem dL_acts_185 : decode cL_acts 185 = .ok (.iload_n 2, 1) := by decide +kernel
theorem dL_acts_186 : decode cL_acts 186 = .ok (.iconst 5, 1) := by decide +kernel
theorem dL_acts_187 : decode cL_acts 187 = .ok (.idiv, 1) := by decide +kernel
theorem dL_acts_188 : decode cL_acts 188 = .ok (.bipush 12, 2) := by decide +kernel
theorem dL_acts_190 : decode cL_acts 190 = .ok (.irem, 1) := by decide +kernel
theorem dL_acts_191 : decode cL_acts 191 = .ok (.iadd, 1) := by decide +kernel
theorem dL_acts_192 : decode cL_acts 192 = .ok (.goto 25, 3) := by decide +kernel
theorem dL_acts_195 : decode cL_acts 195 = .ok (.iload 5, 2) := by decide +kernel
theorem dL_acts_197 : decode cL_acts 197 = .ok (.iconst 3, 1) := by decide +kernel
theorem dL_acts_198 : decode cL_acts 198 = .ok (.if_icmp .ne 12, 3) := by decide +kernel
theorem dL_acts_201 : decode cL_acts 201 = .ok (.iload_n 2, 1) := by decide +kernel
theorem dL_acts_202 : decode cL_acts 202 = .ok (.iconst 5, 1) := by decide +kernel
theorem dL_acts_203 : decode cL_acts 203 = .ok (.idiv, 1) := by decide +kernel
theorem dL_acts_204 : decode cL_acts 204 = .ok (.bipush 40, 2) := by decide +kernel
theorem dL_acts_206 : decode cL_acts 206 = .ok (.irem, 1) := by decide +kernel
theorem dL_acts_207 : decode cL_acts 207 = .ok (.goto 10, 3) := by decide +kernel
theorem dL_acts_210 : decode cL_acts 210 = .ok (.iconst 1, 1) := by decide +kernel
theorem dL_acts_211 : decode cL_acts 211 = .ok (.iload_n 2, 1) := by decide +kernel
theorem dL_acts_212 : decode cL_acts 212 = .ok (.iconst 5, 1) := by decide +kernel
theorem dL_acts_213 : decode cL_acts 213 = .ok (.idiv, 1) := by decide +kernel
theorem dL_acts_214 : decode cL_acts 214 = .ok (.iconst 5, 1) := by decide +kernel
theorem dL_acts_215 : decode cL_acts 215 = .ok (.irem, 1) := by decide +kernel
theorem dL_acts_216 : decode cL_acts 216 = .ok (.iadd, 1) := by decide +kernel
theorem dL_acts_217 : decode cL_acts 217 = .ok (.invokevirtual 58, 3) := by decide +kernel
theorem dL_acts_220 : decode cL_acts 220 = .ok (.ireturn, 1) := by decide +kernel
theorem dL_acts_221 : decode cL_acts 221 = .ok (.aload_n 0, 1) := by decide +kernel
theorem dL_acts_222 : decode cL_acts 222 = .ok (.invokevirtual 92, 3) := by decide +kernel
theorem dL_acts_225 : decode cL_acts 225 = .ok (.ireturn, 1) := by decide +kernel
theorem dL_acts_226 : decode cL_acts 226 = .ok (.iload_n 3, 1) := by decide +kernel
theorem dL_acts_227 : decode cL_acts 227 = .ok (.ifCond .ne 7, 3) := by decide +kernel
theorem dL_acts_230 : decode cL_acts 230 = .ok (.iconst (-1), 1) := by decide +kernel
theorem dL_acts_231 : decode cL_acts 231 = .ok (.goto 29, 3) := by decide +kernel
theorem dL_acts_234 : decode cL_acts 234 = .ok (.aload_n 0, 1) := by decide +kernel
theorem dL_acts_235 : decode cL_acts 235 = .ok (.iload_n 2, 1) := by decide +kernel
theorem dL_acts_236 : decode cL_acts 236 = .ok (.iload_n 3, 1) := by decide +kernel
theorem dL_acts_237 : decode cL_acts 237 = .ok (.irem, 1) := by decide +kernel
theorem dL_acts_238 : decode cL_acts 238 = .ok (.iload_n 2, 1) := by decide +kernel
theorem dL_acts_239 : decode cL_acts 239 = .ok (.bipush 10, 2) := by decide +kernel
theorem dL_acts_241 : decode cL_acts 241 = .ok (.idiv, 1) := by decide +kernel
theorem dL_acts_242 : decode cL_acts 242 = .ok (.iconst 4, 1) := by decide +kernel
theorem dL_acts_243 : decode cL_acts 243 = .ok (.irem, 1) := by decide +kernel
theorem dL_acts_244 : decode cL_acts 244 = .ok (.ifCond .ne 12, 3) := by decide +kernel
theorem dL_acts_247 : decode cL_acts 247 = .ok (.iload_n 2, 1) := by decide +kernel
theorem dL_acts_248 : decode cL_acts 248 = .ok (.bipush 40, 2) := by decide +kernel
theorem dL_acts_250 : decode cL_acts 250 = .ok (.idiv, 1) := by decide +kernel
theorem dL_acts_251 : decode cL_acts 251 = .ok (.iconst 3, 1) := by decide +kernel
theorem dL_acts_252 : decode cL_acts 252 = .ok (.irem, 1) := by decide +kernel
theorem dL_acts_253 : decode cL_acts 253 = .ok (.goto 4, 3) := by decide +kernel
theorem dL_acts_256 : decode cL_acts 256 = .ok (.iconst 0, 1) := by decide +kernel
theorem dL_acts_257 : decode cL_acts 257 = .ok (.invokevirtual 64, 3) := by decide +kernel
theorem dL_acts_260 : decode cL_acts 260 = .ok (.ireturn, 1) := by decide +kernel
theorem dL_acts_261 : decode cL_acts 261 = .ok (.iload_n 3, 1) := by decide +kernel
theorem dL_acts_262 : decode cL_acts 262 = .ok (.ifCond .ne 7, 3) := by decide +kernel
theorem dL_acts_265 : decode cL_acts 265 = .ok (.iconst (-1), 1) := by decide +kernel
theorem dL_acts_266 : decode cL_acts 266 = .ok (.goto 26, 3) := by decide +kernel
theorem dL_acts_269 : decode cL_acts 269 = .ok (.aload_n 0, 1) := by decide +kernel
theorem dL_acts_270 : decode cL_acts 270 = .ok (.iload_n 2, 1) := by decide +kernel
theorem dL_acts_271 : decode cL_acts 271 = .ok (.iload_n 3, 1) := by decide +kernel
theorem dL_acts_272 : decode cL_acts 272 = .ok (.irem, 1) := by decide +kernel
theorem dL_acts_273 : decode cL_acts 273 = .ok (.iload 4, 2) := by decide +kernel
theorem dL_acts_275 : decode cL_acts 275 = .ok (.iload_n 2, 1) := by decide +kernel
theorem dL_acts_276 : decode cL_acts 276 = .ok (.bipush 7, 2) := by decide +kernel
theorem dL_acts_278 : decode cL_acts 278 = .ok (.idiv, 1) := by decide +kernel
theorem dL_acts_279 : decode cL_acts 279 = .ok (.iconst 2, 1) := by decide +kernel
theorem dL_acts_280 : decode cL_acts 280 = .ok (.irem, 1) := by decide +kernel
theorem dL_acts_281 : decode cL_acts 281 = .ok (.iload_n 2, 1) := by decide +kernel
theorem dL_acts_282 : decode cL_acts 282 = .ok (.sipush 400, 3) := by decide +kernel
theorem dL_acts_285 : decode cL_acts 285 = .ok (.idiv, 1) := by decide +kernel
theorem dL_acts_286 : decode cL_acts 286 = .ok (.bipush 12, 2) := by decide +kernel
theorem dL_acts_288 : decode cL_acts 288 = .ok (.irem, 1) := by decide +kernel
theorem dL_acts_289 : decode cL_acts 289 = .ok (.invokevirtual 70, 3) := by decide +kernel
theorem dL_acts_292 : decode cL_acts 292 = .ok (.ireturn, 1) := by decide +kernel
theorem dL_acts_293 : decode cL_acts 293 = .ok (.aload_n 0, 1) := by decide +kernel
theorem dL_acts_294 : decode cL_acts 294 = .ok (.iload_n 2, 1) := by decide +kernel
theorem dL_acts_295 : decode cL_acts 295 = .ok (.iconst 3, 1) := by decide +kernel
theorem dL_acts_296 : decode cL_acts 296 = .ok (.irem, 1) := by decide +kernel
theorem dL_acts_297 : decode cL_acts 297 = .ok (.ifCond .ne 14, 3) := by decide +kernel
theorem dL_acts_300 : decode cL_acts 300 = .ok (.iconst 1, 1) := by decide +kernel
theorem dL_acts_301 : decode cL_acts 301 = .ok (.iload_n 2, 1) := by decide +kernel
theorem dL_acts_302 : decode cL_acts 302 = .ok (.iconst 3, 1) := by decide +kernel
theorem dL_acts_303 : decode cL_acts 303 = .ok (.idiv, 1) := by decide +kernel
theorem dL_acts_304 : decode cL_acts 304 = .ok (.bipush 40, 2) := by decide +kernel
theorem dL_acts_306 : decode cL_acts 306 = .ok (.irem, 1) := by decide +kernel
theorem dL_acts_307 : decode cL_acts 307 = .ok (.iadd, 1) := by decide +kernel
theorem dL_acts_308 : decode cL_acts 308 = .ok (.goto 11, 3) := by decide +kernel
theorem dL_acts_311 : decode cL_acts 311 = .ok (.iconst 1, 1) := by decide +kernel
theorem dL_acts_312 : decode cL_acts 312 = .ok (.iload_n 2, 1) := by decide +kernel
theorem dL_acts_313 : decode cL_acts 313 = .ok (.iconst 3, 1) := by decide +kernel
theorem dL_acts_314 : decode cL_acts 314 = .ok (.idiv, 1) := by decide +kernel
theorem dL_acts_315 : decode cL_acts 315 = .ok (.bipush 6, 2) := by decide +kernel
theorem dL_acts_317 : decode cL_acts 317 = .ok (.irem, 1) := by decide +kernel
theorem dL_acts_318 : decode cL_acts 318 = .ok (.iadd, 1) := by decide +kernel
theorem dL_acts_319 : decode cL_acts 319 = .ok (.invokevirtual 67, 3) := by decide +kernel
theorem dL_acts_322 : decode cL_acts 322 = .ok (.ireturn, 1) := by decide +kernel
theorem dL_acts_323 : decode cL_acts 323 = .ok (.iload_n 2, 1) := by decide +kernel
theorem dL_acts_324 : decode cL_acts 324 = .ok (.iconst 4, 1) := by decide +kernel
theorem dL_acts_325 : decode cL_acts 325 = .ok (.irem, 1) := by decide +kernel
theorem dL_acts_326 : decode cL_acts 326 = .ok (.ifCond .ne 12, 3) := by decide +kernel
theorem dL_acts_329 : decode cL_acts 329 = .ok (.aload_n 0, 1) := by decide +kernel
theorem dL_acts_330 : decode cL_acts 330 = .ok (.iconst 2, 1) := by decide +kernel
theorem dL_acts_331 : decode cL_acts 331 = .ok (.iconst 0, 1) := by decide +kernel
theorem dL_acts_332 : decode cL_acts 332 = .ok (.invokevirtual 74, 3) := by decide +kernel
theorem dL_acts_335 : decode cL_acts 335 = .ok (.goto 30, 3) := by decide +kernel
theorem dL_acts_338 : decode cL_acts 338 = .ok (.iload_n 2, 1) := by decide +kernel
theorem dL_acts_339 : decode cL_acts 339 = .ok (.iconst 4, 1) := by decide +kernel
theorem dL_acts_340 : decode cL_acts 340 = .ok (.irem, 1) := by decide +kernel
theorem dL_acts_341 : decode cL_acts 341 = .ok (.iconst 1, 1) := by decide +kernel
theorem dL_acts_342 : decode cL_acts 342 = .ok (.if_icmp .ne 17, 3) := by decide +kernel
theorem dL_acts_345 : decode cL_acts 345 = .ok (.aload_n 0, 1) := by decide +kernel
theorem dL_acts_346 : decode cL_acts 346 = .ok (.iconst 1, 1) := by decide +kernel
theorem dL_acts_347 : decode cL_acts 347 = .ok (.iload_n 2, 1) := by decide +kernel
theorem dL_acts_348 : decode cL_acts 348 = .ok (.iconst 4, 1) := by decide +kernel
theorem dL_acts_349 : decode cL_acts 349 = .ok (.idiv, 1) := by decide +kernel
theorem dL_acts_350 : decode cL_acts 350 = .ok (.bipush 12, 2) := by decide +kernel
theorem dL_acts_352 : decode cL_acts 352 = .ok (.irem, 1) := by decide +kernel
theorem dL_acts_353 : decode cL_acts 353 = .ok (.invokevirtual 74, 3) := by decide +kernel
theorem dL_acts_356 : decode cL_acts 356 = .ok (.goto 9, 3) := by decide +kernel
theorem dL_acts_359 : decode cL_acts 359 = .ok (.aload_n 0, 1) := by decide +kernel
theorem dL_acts_360 : decode cL_acts 360 = .ok (.iconst 0, 1) := by decide +kernel
theorem dL_acts_361 : decode cL_acts 361 = .ok (.iconst 0, 1) := by decide +kernel
theorem dL_acts_362 : decode cL_acts 362 = .ok (.invokevirtual 74, 3) := by decide +kernel
theorem dL_acts_365 : decode cL_acts 365 = .ok (.ireturn, 1) := by decide +kernel
theorem dL_acts_366 : decode cL_acts 366 = .ok (.iload_n 3, 1) := by decide +kernel
theorem dL_acts_367 : decode cL_acts 367 = .ok (.ifCond .eq 12, 3) := by decide +kernel
theorem dL_acts_370 : decode cL_acts 370 = .ok (.aload_n 0, 1) := by decide +kernel
theorem dL_acts_371 : decode cL_acts 371 = .ok (.bipush 6, 2) := by decide +kernel
theorem dL_acts_373 : decode cL_acts 373 = .ok (.invokevirtual 13, 3) := by decide +kernel
theorem dL_acts_376 : decode cL_acts 376 = .ok (.ifCond .ne 7, 3) := by decide +kernel
theorem dL_acts_379 : decode cL_acts 379 = .ok (.iconst (-1), 1) := by decide +kernel
theorem dL_acts_380 : decode cL_acts 380 = .ok (.goto 39, 3) := by decide +kernel
theorem dL_acts_383 : decode cL_acts 383 = .ok (.aload_n 0, 1) := by decide +kernel
theorem dL_acts_384 : decode cL_acts 384 = .ok (.iload_n 2, 1) := by decide +kernel
theorem dL_acts_385 : decode cL_acts 385 = .ok (.aload_n 0, 1) := by decide +kernel
theorem dL_acts_386 : decode cL_acts 386 = .ok (.bipush 6, 2) := by decide +kernel
theorem dL_acts_388 : decode cL_acts 388 = .ok (.invokevirtual 13, 3) := by decide +kernel
theorem dL_acts_391 : decode cL_acts 391 = .ok (.irem, 1) := by decide +kernel
theorem dL_acts_392 : decode cL_acts 392 = .ok (.iload_n 2, 1) := by decide +kernel
theorem dL_acts_393 : decode cL_acts 393 = .ok (.bipush 30, 2) := by decide +kernel
theorem dL_acts_395 : decode cL_acts 395 = .ok (.idiv, 1) := by decide +kernel
theorem dL_acts_396 : decode cL_acts 396 = .ok (.iload_n 3, 1) := by decide +kernel
theorem dL_acts_397 : decode cL_acts 397 = .ok (.irem, 1) := by decide +kernel
theorem dL_acts_398 : decode cL_acts 398 = .ok (.iconst 1, 1) := by decide +kernel
theorem dL_acts_399 : decode cL_acts 399 = .ok (.iload_n 2, 1) := by decide +kernel
theorem dL_acts_400 : decode cL_acts 400 = .ok (.bipush 30, 2) := by decide +kernel
theorem dL_acts_402 : decode cL_acts 402 = .ok (.idiv, 1) := by decide +kernel
theorem dL_acts_403 : decode cL_acts 403 = .ok (.iload_n 3, 1) := by decide +kernel
theorem dL_acts_404 : decode cL_acts 404 = .ok (.irem, 1) := by decide +kernel
theorem dL_acts_405 : decode cL_acts 405 = .ok (.ishl, 1) := by decide +kernel
theorem dL_acts_406 : decode cL_acts 406 = .ok (.iload_n 2, 1) := by decide +kernel
theorem dL_acts_407 : decode cL_acts 407 = .ok (.sipush 300, 3) := by decide +kernel
theorem dL_acts_410 : decode cL_acts 410 = .ok (.idiv, 1) := by decide +kernel
theorem dL_acts_411 : decode cL_acts 411 = .ok (.iconst 1, 1) := by decide +kernel
theorem dL_acts_412 : decode cL_acts 412 = .ok (.iload_n 3, 1) := by decide +kernel
theorem dL_acts_413 : decode cL_acts 413 = .ok (.ishl, 1) := by decide +kernel
theorem dL_acts_414 : decode cL_acts 414 = .ok (.irem, 1) := by decide +kernel
theorem dL_acts_415 : decode cL_acts 415 = .ok (.ior, 1) := by decide +kernel
theorem dL_acts_416 : decode cL_acts 416 = .ok (.invokevirtual 77, 3) := by decide +kernel
theorem dL_acts_419 : decode cL_acts 419 = .ok (.ireturn, 1) := by decide +kernel
theorem dL_law_0 : decode cL_law 0 = .ok (.new 14, 3) := by decide +kernel
theorem dL_law_3 : decode cL_law 3 = .ok (.dup, 1) := by decide +kernel
theorem dL_law_4 : decode cL_law 4 = .ok (.invokespecial 108, 3) := by decide +kernel
theorem dL_law_7 : decode cL_law 7 = .ok (.astore_n 1, 1) := by decide +kernel
theorem dL_law_8 : decode cL_law 8 = .ok (.aload_n 1, 1) := by decide +kernel
theorem dL_law_9 : decode cL_law 9 = .ok (.invokevirtual 105, 3) := by decide +kernel
theorem dL_law_12 : decode cL_law 12 = .ok (.bipush (-2), 2) := by decide +kernel
theorem dL_law_14 : decode cL_law 14 = .ok (.if_icmp .ne 28, 3) := by decide +kernel
theorem dL_law_17 : decode cL_law 17 = .ok (.aload_n 1, 1) := by decide +kernel
theorem dL_law_18 : decode cL_law 18 = .ok (.invokestatic 109, 3) := by decide +kernel
theorem dL_law_21 : decode cL_law 21 = .ok (.ifCond .eq 21, 3) := by decide +kernel
theorem dL_law_24 : decode cL_law 24 = .ok (.aload_n 1, 1) := by decide +kernel
theorem dL_law_25 : decode cL_law 25 = .ok (.invokestatic 112, 3) := by decide +kernel
theorem dL_law_28 : decode cL_law 28 = .ok (.ifCond .eq 14, 3) := by decide +kernel
theorem dL_law_31 : decode cL_law 31 = .ok (.aload_n 1, 1) := by decide +kernel
theorem dL_law_32 : decode cL_law 32 = .ok (.invokestatic 98, 3) := by decide +kernel
theorem dL_law_35 : decode cL_law 35 = .ok (.ifCond .eq 7, 3) := by decide +kernel
theorem dL_law_38 : decode cL_law 38 = .ok (.iconst 1, 1) := by decide +kernel
theorem dL_law_39 : decode cL_law 39 = .ok (.goto 4, 3) := by decide +kernel
theorem dL_law_42 : decode cL_law 42 = .ok (.iconst 0, 1) := by decide +kernel
theorem dL_law_43 : decode cL_law 43 = .ok (.istore_n 2, 1) := by decide +kernel
theorem dL_law_44 : decode cL_law 44 = .ok (.iconst 0, 1) := by decide +kernel
theorem dL_law_45 : decode cL_law 45 = .ok (.istore_n 3, 1) := by decide +kernel
theorem dL_law_46 : decode cL_law 46 = .ok (.iload_n 3, 1) := by decide +kernel
theorem dL_law_47 : decode cL_law 47 = .ok (.bipush 100, 2) := by decide +kernel
theorem dL_law_49 : decode cL_law 49 = .ok (.if_icmp .ge 398, 3) := by decide +kernel
theorem dL_law_52 : decode cL_law 52 = .ok (.iload_n 2, 1) := by decide +kernel
theorem dL_law_53 : decode cL_law 53 = .ok (.ifCond .eq 394, 3) := by decide +kernel
theorem dL_law_56 : decode cL_law 56 = .ok (.aload_n 0, 1) := by decide +kernel
theorem dL_law_57 : decode cL_law 57 = .ok (.iconst 2, 1) := by decide +kernel
theorem dL_law_58 : decode cL_law 58 = .ok (.iload_n 3, 1) := by decide +kernel
theorem dL_law_59 : decode cL_law 59 = .ok (.imul, 1) := by decide +kernel
theorem dL_law_60 : decode cL_law 60 = .ok (.invokestatic 115, 3) := by decide +kernel
theorem dL_law_63 : decode cL_law 63 = .ok (.istore 4, 2) := by decide +kernel
theorem dL_law_65 : decode cL_law 65 = .ok (.aload_n 0, 1) := by decide +kernel
theorem dL_law_66 : decode cL_law 66 = .ok (.iconst 2, 1) := by decide +kernel
theorem dL_law_67 : decode cL_law 67 = .ok (.iload_n 3, 1) := by decide +kernel
theorem dL_law_68 : decode cL_law 68 = .ok (.imul, 1) := by decide +kernel
theorem dL_law_69 : decode cL_law 69 = .ok (.iconst 1, 1) := by decide +kernel
theorem dL_law_70 : decode cL_law 70 = .ok (.iadd, 1) := by decide +kernel
theorem dL_law_71 : decode cL_law 71 = .ok (.invokestatic 115, 3) := by decide +kernel
theorem dL_law_74 : decode cL_law 74 = .ok (.ldc 119, 2) := by decide +kernel
theorem dL_law_76 : decode cL_law 76 = .ok (.invokestatic 95, 3) := by decide +kernel
theorem dL_law_79 : decode cL_law 79 = .ok (.istore 5, 2) := by decide +kernel
theorem dL_law_81 : decode cL_law 81 = .ok (.aload_n 1, 1) := by decide +kernel
theorem dL_law_82 : decode cL_law 82 = .ok (.invokestatic 46, 3) := by decide +kernel
theorem dL_law_85 : decode cL_law 85 = .ok (.lstore 6, 2) := by decide +kernel
theorem dL_law_87 : decode cL_law 87 = .ok (.aload_n 1, 1) := by decide +kernel
theorem dL_law_88 : decode cL_law 88 = .ok (.bipush 9, 2) := by decide +kernel
theorem dL_law_90 : decode cL_law 90 = .ok (.invokevirtual 13, 3) := by decide +kernel
theorem dL_law_93 : decode cL_law 93 = .ok (.istore 8, 2) := by decide +kernel
theorem dL_law_95 : decode cL_law 95 = .ok (.iload_n 3, 1) := by decide +kernel
theorem dL_law_96 : decode cL_law 96 = .ok (.bipush 23, 2) := by decide +kernel
theorem dL_law_98 : decode cL_law 98 = .ok (.irem, 1) := by decide +kernel
theorem dL_law_99 : decode cL_law 99 = .ok (.istore 9, 2) := by decide +kernel
theorem dL_law_101 : decode cL_law 101 = .ok (.iload_n 3, 1) := by decide +kernel
theorem dL_law_102 : decode cL_law 102 = .ok (.iconst 5, 1) := by decide +kernel
theorem dL_law_103 : decode cL_law 103 = .ok (.if_icmp .ge 7, 3) := by decide +kernel
theorem dL_law_106 : decode cL_law 106 = .ok (.iconst 0, 1) := by decide +kernel
theorem dL_law_107 : decode cL_law 107 = .ok (.goto 95, 3) := by decide +kernel
theorem dL_law_110 : decode cL_law 110 = .ok (.iload_n 3, 1) := by decide +kernel
theorem dL_law_111 : decode cL_law 111 = .ok (.bipush 9, 2) := by decide +kernel
theorem dL_law_113 : decode cL_law 113 = .ok (.if_icmp .ge 7, 3) := by decide +kernel
theorem dL_law_116 : decode cL_law 116 = .ok (.iconst 1, 1) := by decide +kernel
theorem dL_law_117 : decode cL_law 117 = .ok (.goto 85, 3) := by decide +kernel
theorem dL_law_120 : decode cL_law 120 = .ok (.iload 4, 2) := by decide +kernel
theorem dL_law_122 : decode cL_law 122 = .ok (.bipush 20, 2) := by decide +kernel
theorem dL_law_124 : decode cL_law 124 = .ok (.ishr, 1) := by decide +kernel
theorem dL_law_125 : decode cL_law 125 = .ok (.iconst 4, 1) := by decide +kernel
theorem dL_law_126 : decode cL_law 126 = .ok (.invokestatic 95, 3) := by decide +kernel
theorem dL_law_129 : decode cL_law 129 = .ok (.ifCond .ne 13, 3) := by decide +kernel
theorem dL_law_132 : decode cL_law 132 = .ok (.iload 4, 2) := by decide +kernel
theorem dL_law_134 : decode cL_law 134 = .ok (.bipush 20, 2) := by decide +kernel
theorem dL_law_136 : decode cL_law 136 = .ok (.invokestatic 95, 3) := by decide +kernel
theorem dL_law_139 : decode cL_law 139 = .ok (.goto 63, 3) := by decide +kernel
theorem dL_law_142 : decode cL_law 142 = .ok (.iload 9, 2) := by decide +kernel
theorem dL_law_144 : decode cL_law 144 = .ok (.bipush 9, 2) := by decide +kernel
theorem dL_law_146 : decode cL_law 146 = .ok (.if_icmp .ne 7, 3) := by decide +kernel
theorem dL_law_149 : decode cL_law 149 = .ok (.iconst 3, 1) := by decide +kernel
theorem dL_law_150 : decode cL_law 150 = .ok (.goto 52, 3) := by decide +kernel
theorem dL_law_153 : decode cL_law 153 = .ok (.iload 9, 2) := by decide +kernel
theorem dL_law_155 : decode cL_law 155 = .ok (.bipush 13, 2) := by decide +kernel
theorem dL_law_157 : decode cL_law 157 = .ok (.if_icmp .ge 7, 3) := by decide +kernel
theorem dL_law_160 : decode cL_law 160 = .ok (.iconst 5, 1) := by decide +kernel
theorem dL_law_161 : decode cL_law 161 = .ok (.goto 41, 3) := by decide +kernel
theorem dL_law_164 : decode cL_law 164 = .ok (.iload 9, 2) := by decide +kernel
theorem dL_law_166 : decode cL_law 166 = .ok (.bipush 16, 2) := by decide +kernel
theorem dL_law_168 : decode cL_law 168 = .ok (.if_icmp .ge 8, 3) := by decide +kernel
theorem dL_law_171 : decode cL_law 171 = .ok (.bipush 9, 2) := by decide +kernel
theorem dL_law_173 : decode cL_law 173 = .ok (.goto 29, 3) := by decide +kernel
theorem dL_law_176 : decode cL_law 176 = .ok (.iload 9, 2) := by decide +kernel
theorem dL_law_178 : decode cL_law 178 = .ok (.bipush 16, 2) := by decide +kernel
theorem dL_law_180 : decode cL_law 180 = .ok (.if_icmp .ne 8, 3) := by decide +kernel
theorem dL_law_183 : decode cL_law 183 = .ok (.bipush 12, 2) := by decide +kernel
theorem dL_law_185 : decode cL_law 185 = .ok (.goto 17, 3) := by decide +kernel
theorem dL_law_188 : decode cL_law 188 = .ok (.iload 9, 2) := by decide +kernel
theorem dL_law_190 : decode cL_law 190 = .ok (.bipush 21, 2) := by decide +kernel
theorem dL_law_192 : decode cL_law 192 = .ok (.if_icmp .ge 8, 3) := by decide +kernel
theorem dL_law_195 : decode cL_law 195 = .ok (.bipush 14, 2) := by decide +kernel
theorem dL_law_197 : decode cL_law 197 = .ok (.goto 5, 3) := by decide +kernel
theorem dL_law_200 : decode cL_law 200 = .ok (.bipush 17, 2) := by decide +kernel
theorem dL_law_202 : decode cL_law 202 = .ok (.istore 10, 2) := by decide +kernel
theorem dL_law_204 : decode cL_law 204 = .ok (.aload_n 1, 1) := by decide +kernel
theorem dL_law_205 : decode cL_law 205 = .ok (.bipush 20, 2) := by decide +kernel
theorem dL_law_207 : decode cL_law 207 = .ok (.iload 4, 2) := by decide +kernel
theorem dL_law_209 : decode cL_law 209 = .ok (.iconst 4, 1) := by decide +kernel
theorem dL_law_210 : decode cL_law 210 = .ok (.ishr, 1) := by decide +kernel
theorem dL_law_211 : decode cL_law 211 = .ok (.ldc 120, 2) := by decide +kernel
theorem dL_law_213 : decode cL_law 213 = .ok (.invokestatic 95, 3) := by decide +kernel
theorem dL_law_216 : decode cL_law 216 = .ok (.imul, 1) := by decide +kernel
theorem dL_law_217 : decode cL_law 217 = .ok (.iload 10, 2) := by decide +kernel
theorem dL_law_219 : decode cL_law 219 = .ok (.iadd, 1) := by decide +kernel
theorem dL_law_220 : decode cL_law 220 = .ok (.iload 5, 2) := by decide +kernel
theorem dL_law_222 : decode cL_law 222 = .ok (.invokestatic 121, 3) := by decide +kernel
theorem dL_law_225 : decode cL_law 225 = .ok (.istore 11, 2) := by decide +kernel
theorem dL_law_227 : decode cL_law 227 = .ok (.iload 11, 2) := by decide +kernel
theorem dL_law_229 : decode cL_law 229 = .ok (.bipush (-4), 2) := by decide +kernel
theorem dL_law_231 : decode cL_law 231 = .ok (.if_icmp .lt 61, 3) := by decide +kernel
theorem dL_law_234 : decode cL_law 234 = .ok (.iload 11, 2) := by decide +kernel
theorem dL_law_236 : decode cL_law 236 = .ok (.ifCond .ge 24, 3) := by decide +kernel
theorem dL_law_239 : decode cL_law 239 = .ok (.aload_n 1, 1) := by decide +kernel
theorem dL_law_240 : decode cL_law 240 = .ok (.invokestatic 46, 3) := by decide +kernel
theorem dL_law_243 : decode cL_law 243 = .ok (.lload 6, 2) := by decide +kernel
theorem dL_law_245 : decode cL_law 245 = .ok (.lcmp, 1) := by decide +kernel
theorem dL_law_246 : decode cL_law 246 = .ok (.ifCond .ne 46, 3) := by decide +kernel
theorem dL_law_249 : decode cL_law 249 = .ok (.aload_n 1, 1) := by decide +kernel
theorem dL_law_250 : decode cL_law 250 = .ok (.bipush 9, 2) := by decide +kernel
theorem dL_law_252 : decode cL_law 252 = .ok (.invokevirtual 13, 3) := by decide +kernel
theorem dL_law_255 : decode cL_law 255 = .ok (.iload 8, 2) := by decide +kernel
theorem dL_law_257 : decode cL_law 257 = .ok (.if_icmp .ne 35, 3) := by decide +kernel
theorem dL_law_260 : decode cL_law 260 = .ok (.iload 11, 2) := by decide +kernel
theorem dL_law_262 : decode cL_law 262 = .ok (.ifCond .lt 26, 3) := by decide +kernel
theorem dL_law_265 : decode cL_law 265 = .ok (.aload_n 1, 1) := by decide +kernel
theorem dL_law_266 : decode cL_law 266 = .ok (.bipush 9, 2) := by decide +kernel
theorem dL_law_268 : decode cL_law 268 = .ok (.invokevirtual 13, 3) := by decide +kernel
theorem dL_law_271 : decode cL_law 271 = .ok (.iload 8, 2) := by decide +kernel
theorem dL_law_273 : decode cL_law 273 = .ok (.iconst 4, 1) := by decide +kernel
theorem dL_law_274 : decode cL_law 274 = .ok (.if_icmp .ne 7, 3) := by decide +kernel
theorem dL_law_277 : decode cL_law 277 = .ok (.iconst 4, 1) := by decide +kernel
theorem dL_law_278 : decode cL_law 278 = .ok (.goto 7, 3) := by decide +kernel
theorem dL_law_281 : decode cL_law 281 = .ok (.iload 8, 2) := by decide +kernel
theorem dL_law_283 : decode cL_law 283 = .ok (.iconst 1, 1) := by decide +kernel
theorem dL_law_284 : decode cL_law 284 = .ok (.iadd, 1) := by decide +kernel
theorem dL_law_285 : decode cL_law 285 = .ok (.if_icmp .ne 7, 3) := by decide +kernel
theorem dL_law_288 : decode cL_law 288 = .ok (.iconst 1, 1) := by decide +kernel
theorem dL_law_289 : decode cL_law 289 = .ok (.goto 4, 3) := by decide +kernel
theorem dL_law_292 : decode cL_law 292 = .ok (.iconst 0, 1) := by decide +kernel
theorem dL_law_293 : decode cL_law 293 = .ok (.istore_n 2, 1) := by decide +kernel
theorem dL_law_294 : decode cL_law 294 = .ok (.iload_n 2, 1) := by decide +kernel
theorem dL_law_295 : decode cL_law 295 = .ok (.ifCond .eq 53, 3) := by decide +kernel
theorem dL_law_298 : decode cL_law 298 = .ok (.iload 11, 2) := by decide +kernel
theorem dL_law_300 : decode cL_law 300 = .ok (.ifCond .lt 48, 3) := by decide +kernel
theorem dL_law_303 : decode cL_law 303 = .ok (.iload 4, 2) := by decide +kernel
theorem dL_law_305 : decode cL_law 305 = .ok (.bipush 25, 2) := by decide +kernel
theorem dL_law_307 : decode cL_law 307 = .ok (.ishr, 1) := by decide +kernel
theorem dL_law_308 : decode cL_law 308 = .ok (.iconst 3, 1) := by decide +kernel
theorem dL_law_309 : decode cL_law 309 = .ok (.iand, 1) := by decide +kernel
theorem dL_law_310 : decode cL_law 310 = .ok (.ifCond .ne 38, 3) := by decide +kernel
theorem dL_law_313 : decode cL_law 313 = .ok (.aload_n 1, 1) := by decide +kernel
theorem dL_law_314 : decode cL_law 314 = .ok (.invokevirtual 105, 3) := by decide +kernel
theorem dL_law_317 : decode cL_law 317 = .ok (.iload 8, 2) := by decide +kernel
theorem dL_law_319 : decode cL_law 319 = .ok (.iconst 4, 1) := by decide +kernel
theorem dL_law_320 : decode cL_law 320 = .ok (.if_icmp .ne 7, 3) := by decide +kernel
theorem dL_law_323 : decode cL_law 323 = .ok (.iconst 3, 1) := by decide +kernel
theorem dL_law_324 : decode cL_law 324 = .ok (.goto 5, 3) := by decide +kernel
theorem dL_law_327 : decode cL_law 327 = .ok (.iload 8, 2) := by decide +kernel
theorem dL_law_329 : decode cL_law 329 = .ok (.if_icmp .ne 17, 3) := by decide +kernel
theorem dL_law_332 : decode cL_law 332 = .ok (.aload_n 1, 1) := by decide +kernel
theorem dL_law_333 : decode cL_law 333 = .ok (.invokestatic 46, 3) := by decide +kernel
theorem dL_law_336 : decode cL_law 336 = .ok (.lload 6, 2) := by decide +kernel
theorem dL_law_338 : decode cL_law 338 = .ok (.lcmp, 1) := by decide +kernel
theorem dL_law_339 : decode cL_law 339 = .ok (.ifCond .ne 7, 3) := by decide +kernel
theorem dL_law_342 : decode cL_law 342 = .ok (.iconst 1, 1) := by decide +kernel
theorem dL_law_343 : decode cL_law 343 = .ok (.goto 4, 3) := by decide +kernel
theorem dL_law_346 : decode cL_law 346 = .ok (.iconst 0, 1) := by decide +kernel
theorem dL_law_347 : decode cL_law 347 = .ok (.istore_n 2, 1) := by decide +kernel
theorem dL_law_348 : decode cL_law 348 = .ok (.iload_n 2, 1) := by decide +kernel
theorem dL_law_349 : decode cL_law 349 = .ok (.ifCond .eq 90, 3) := by decide +kernel
theorem dL_law_352 : decode cL_law 352 = .ok (.aload_n 1, 1) := by decide +kernel
theorem dL_law_353 : decode cL_law 353 = .ok (.invokestatic 125, 3) := by decide +kernel
theorem dL_law_356 : decode cL_law 356 = .ok (.ifCond .eq 83, 3) := by decide +kernel
theorem dL_law_359 : decode cL_law 359 = .ok (.iload_n 3, 1) := by decide +kernel
theorem dL_law_360 : decode cL_law 360 = .ok (.iconst 3, 1) := by decide +kernel
theorem dL_law_361 : decode cL_law 361 = .ok (.irem, 1) := by decide +kernel
theorem dL_law_362 : decode cL_law 362 = .ok (.iconst 1, 1) := by decide +kernel
theorem dL_law_363 : decode cL_law 363 = .ok (.if_icmp .ne 10, 3) := by decide +kernel
theorem dL_law_366 : decode cL_law 366 = .ok (.aload_n 1, 1) := by decide +kernel
theorem dL_law_367 : decode cL_law 367 = .ok (.invokestatic 112, 3) := by decide +kernel
theorem dL_law_370 : decode cL_law 370 = .ok (.ifCond .eq 69, 3) := by decide +kernel
theorem dL_law_373 : decode cL_law 373 = .ok (.aload_n 1, 1) := by decide +kernel
theorem dL_law_374 : decode cL_law 374 = .ok (.invokestatic 102, 3) := by decide +kernel
theorem dL_law_377 : decode cL_law 377 = .ok (.ifCond .eq 62, 3) := by decide +kernel
theorem dL_law_380 : decode cL_law 380 = .ok (.iload_n 3, 1) := by decide +kernel
theorem dL_law_381 : decode cL_law 381 = .ok (.iconst 3, 1) := by decide +kernel
theorem dL_law_382 : decode cL_law 382 = .ok (.irem, 1) := by decide +kernel
theorem dL_law_383 : decode cL_law 383 = .ok (.iconst 2, 1) := by decide +kernel
theorem dL_law_384 : decode cL_law 384 = .ok (.if_icmp .ne 10, 3) := by decide +kernel
theorem dL_law_387 : decode cL_law 387 = .ok (.aload_n 1, 1) := by decide +kernel
theorem dL_law_388 : decode cL_law 388 = .ok (.invokestatic 98, 3) := by decide +kernel
theorem dL_law_391 : decode cL_law 391 = .ok (.ifCond .eq 48, 3) := by decide +kernel
theorem dL_law_394 : decode cL_law 394 = .ok (.iload_n 3, 1) := by decide +kernel
theorem dL_law_395 : decode cL_law 395 = .ok (.iconst 4, 1) := by decide +kernel
theorem dL_law_396 : decode cL_law 396 = .ok (.irem, 1) := by decide +kernel
theorem dL_law_397 : decode cL_law 397 = .ok (.iconst 3, 1) := by decide +kernel
theorem dL_law_398 : decode cL_law 398 = .ok (.if_icmp .ne 22, 3) := by decide +kernel
theorem dL_law_401 : decode cL_law 401 = .ok (.aload_n 1, 1) := by decide +kernel
theorem dL_law_402 : decode cL_law 402 = .ok (.iconst 0, 1) := by decide +kernel
theorem dL_law_403 : decode cL_law 403 = .ok (.invokevirtual 13, 3) := by decide +kernel
theorem dL_law_406 : decode cL_law 406 = .ok (.ifCond .eq 14, 3) := by decide +kernel
theorem dL_law_409 : decode cL_law 409 = .ok (.aload_n 1, 1) := by decide +kernel
theorem dL_law_410 : decode cL_law 410 = .ok (.iload 4, 2) := by decide +kernel
theorem dL_law_412 : decode cL_law 412 = .ok (.iconst 5, 1) := by decide +kernel
theorem dL_law_413 : decode cL_law 413 = .ok (.ishr, 1) := by decide +kernel
theorem dL_law_414 : decode cL_law 414 = .ok (.invokestatic 128, 3) := by decide +kernel
theorem dL_law_417 : decode cL_law 417 = .ok (.ifCond .eq 22, 3) := by decide +kernel
theorem dL_law_420 : decode cL_law 420 = .ok (.iload_n 3, 1) := by decide +kernel
theorem dL_law_421 : decode cL_law 421 = .ok (.bipush 9, 2) := by decide +kernel
theorem dL_law_423 : decode cL_law 423 = .ok (.irem, 1) := by decide +kernel
theorem dL_law_424 : decode cL_law 424 = .ok (.iconst 4, 1) := by decide +kernel
theorem dL_law_425 : decode cL_law 425 = .ok (.if_icmp .ne 10, 3) := by decide +kernel
theorem dL_law_428 : decode cL_law 428 = .ok (.aload_n 1, 1) := by decide +kernel
theorem dL_law_429 : decode cL_law 429 = .ok (.invokestatic 109, 3) := by decide +kernel
theorem dL_law_432 : decode cL_law 432 = .ok (.ifCond .eq 7, 3) := by decide +kernel
theorem dL_law_435 : decode cL_law 435 = .ok (.iconst 1, 1) := by decide +kernel
theorem dL_law_436 : decode cL_law 436 = .ok (.goto 4, 3) := by decide +kernel
theorem dL_law_439 : decode cL_law 439 = .ok (.iconst 0, 1) := by decide +kernel
theorem dL_law_440 : decode cL_law 440 = .ok (.istore_n 2, 1) := by decide +kernel
theorem dL_law_441 : decode cL_law 441 = .ok (.iinc 3 1, 3) := by decide +kernel
theorem dL_law_444 : decode cL_law 444 = .ok (.goto (-398), 3) := by decide +kernel
theorem dL_law_447 : decode cL_law 447 = .ok (.iload_n 2, 1) := by decide +kernel
theorem dL_law_448 : decode cL_law 448 = .ok (.ifCond .eq 28, 3) := by decide +kernel
theorem dL_law_451 : decode cL_law 451 = .ok (.aload_n 1, 1) := by decide +kernel
theorem dL_law_452 : decode cL_law 452 = .ok (.invokestatic 109, 3) := by decide +kernel
theorem dL_law_455 : decode cL_law 455 = .ok (.ifCond .eq 21, 3) := by decide +kernel
theorem dL_law_458 : decode cL_law 458 = .ok (.aload_n 1, 1) := by decide +kernel
theorem dL_law_459 : decode cL_law 459 = .ok (.invokestatic 112, 3) := by decide +kernel
theorem dL_law_462 : decode cL_law 462 = .ok (.ifCond .eq 14, 3) := by decide +kernel
theorem dL_law_465 : decode cL_law 465 = .ok (.aload_n 1, 1) := by decide +kernel
theorem dL_law_466 : decode cL_law 466 = .ok (.invokestatic 98, 3) := by decide +kernel
theorem dL_law_469 : decode cL_law 469 = .ok (.ifCond .eq 7, 3) := by decide +kernel
theorem dL_law_472 : decode cL_law 472 = .ok (.iconst 1, 1) := by decide +kernel
theorem dL_law_473 : decode cL_law 473 = .ok (.goto 4, 3) := by decide +kernel
theorem dL_law_476 : decode cL_law 476 = .ok (.iconst 0, 1) := by decide +kernel
theorem dL_law_477 : decode cL_law 477 = .ok (.ireturn, 1) := by decide +kernel
