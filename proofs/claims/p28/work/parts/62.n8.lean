theorem dL_cell_0 : decode cL_cell 0 = .ok (.iload_n 1, 1) := by decide +kernel
theorem dL_cell_1 : decode cL_cell 1 = .ok (.aload_n 0, 1) := by decide +kernel
theorem dL_cell_2 : decode cL_cell 2 = .ok (.arraylength, 1) := by decide +kernel
theorem dL_cell_3 : decode cL_cell 3 = .ok (.if_icmp .ge 9, 3) := by decide +kernel
theorem dL_cell_6 : decode cL_cell 6 = .ok (.aload_n 0, 1) := by decide +kernel
theorem dL_cell_7 : decode cL_cell 7 = .ok (.iload_n 1, 1) := by decide +kernel
theorem dL_cell_8 : decode cL_cell 8 = .ok (.iaload, 1) := by decide +kernel
theorem dL_cell_9 : decode cL_cell 9 = .ok (.goto 15, 3) := by decide +kernel
theorem dL_cell_12 : decode cL_cell 12 = .ok (.sipush 7919, 3) := by decide +kernel
theorem dL_cell_15 : decode cL_cell 15 = .ok (.iload_n 1, 1) := by decide +kernel
theorem dL_cell_16 : decode cL_cell 16 = .ok (.iconst 3, 1) := by decide +kernel
theorem dL_cell_17 : decode cL_cell 17 = .ok (.iadd, 1) := by decide +kernel
theorem dL_cell_18 : decode cL_cell 18 = .ok (.imul, 1) := by decide +kernel
theorem dL_cell_19 : decode cL_cell 19 = .ok (.iload_n 1, 1) := by decide +kernel
theorem dL_cell_20 : decode cL_cell 20 = .ok (.bipush 11, 2) := by decide +kernel
theorem dL_cell_22 : decode cL_cell 22 = .ok (.iadd, 1) := by decide +kernel
theorem dL_cell_23 : decode cL_cell 23 = .ok (.imul, 1) := by decide +kernel
theorem dL_cell_24 : decode cL_cell 24 = .ok (.ireturn, 1) := by decide +kernel
theorem dL_low_0 : decode cL_low 0 = .ok (.iload_n 0, 1) := by decide +kernel
theorem dL_low_1 : decode cL_low 1 = .ok (.ldc 7, 2) := by decide +kernel
theorem dL_low_3 : decode cL_low 3 = .ok (.iand, 1) := by decide +kernel
theorem dL_low_4 : decode cL_low 4 = .ok (.iload_n 1, 1) := by decide +kernel
theorem dL_low_5 : decode cL_low 5 = .ok (.irem, 1) := by decide +kernel
theorem dL_low_6 : decode cL_low 6 = .ok (.ireturn, 1) := by decide +kernel
theorem dL_told_0 : decode cL_told 0 = .ok (.ldc2_w 8, 3) := by decide +kernel
theorem dL_told_3 : decode cL_told 3 = .ok (.lstore_n 1, 1) := by decide +kernel
theorem dL_told_4 : decode cL_told 4 = .ok (.iconst 0, 1) := by decide +kernel
theorem dL_told_5 : decode cL_told 5 = .ok (.istore_n 3, 1) := by decide +kernel
theorem dL_told_6 : decode cL_told 6 = .ok (.iload_n 3, 1) := by decide +kernel
theorem dL_told_7 : decode cL_told 7 = .ok (.bipush 17, 2) := by decide +kernel
theorem dL_told_9 : decode cL_told 9 = .ok (.if_icmp .ge 22, 3) := by decide +kernel
theorem dL_told_12 : decode cL_told 12 = .ok (.ldc2_w 10, 3) := by decide +kernel
theorem dL_told_15 : decode cL_told 15 = .ok (.lload_n 1, 1) := by decide +kernel
theorem dL_told_16 : decode cL_told 16 = .ok (.lmul, 1) := by decide +kernel
theorem dL_told_17 : decode cL_told 17 = .ok (.aload_n 0, 1) := by decide +kernel
theorem dL_told_18 : decode cL_told 18 = .ok (.iload_n 3, 1) := by decide +kernel
theorem dL_told_19 : decode cL_told 19 = .ok (.invokevirtual 12, 3) := by decide +kernel
theorem dL_told_22 : decode cL_told 22 = .ok (.i2l, 1) := by decide +kernel
theorem dL_told_23 : decode cL_told 23 = .ok (.ladd, 1) := by decide +kernel
theorem dL_told_24 : decode cL_told 24 = .ok (.lstore_n 1, 1) := by decide +kernel
theorem dL_told_25 : decode cL_told 25 = .ok (.iinc 3 1, 3) := by decide +kernel
theorem dL_told_28 : decode cL_told 28 = .ok (.goto (-22), 3) := by decide +kernel
theorem dL_told_31 : decode cL_told 31 = .ok (.iconst 0, 1) := by decide +kernel
theorem dL_told_32 : decode cL_told 32 = .ok (.istore_n 3, 1) := by decide +kernel
theorem dL_told_33 : decode cL_told 33 = .ok (.iload_n 3, 1) := by decide +kernel
theorem dL_told_34 : decode cL_told 34 = .ok (.bipush 12, 2) := by decide +kernel
theorem dL_told_36 : decode cL_told 36 = .ok (.if_icmp .ge 44, 3) := by decide +kernel
theorem dL_told_39 : decode cL_told 39 = .ok (.iconst 0, 1) := by decide +kernel
theorem dL_told_40 : decode cL_told 40 = .ok (.istore 4, 2) := by decide +kernel
theorem dL_told_42 : decode cL_told 42 = .ok (.iload 4, 2) := by decide +kernel
theorem dL_told_44 : decode cL_told 44 = .ok (.aload_n 0, 1) := by decide +kernel
theorem dL_told_45 : decode cL_told 45 = .ok (.iload_n 3, 1) := by decide +kernel
theorem dL_told_46 : decode cL_told 46 = .ok (.iconst 0, 1) := by decide +kernel
theorem dL_told_47 : decode cL_told 47 = .ok (.invokevirtual 18, 3) := by decide +kernel
theorem dL_told_50 : decode cL_told 50 = .ok (.if_icmp .ge 24, 3) := by decide +kernel
theorem dL_told_53 : decode cL_told 53 = .ok (.ldc2_w 10, 3) := by decide +kernel
theorem dL_told_56 : decode cL_told 56 = .ok (.lload_n 1, 1) := by decide +kernel
theorem dL_told_57 : decode cL_told 57 = .ok (.lmul, 1) := by decide +kernel
theorem dL_told_58 : decode cL_told 58 = .ok (.aload_n 0, 1) := by decide +kernel
theorem dL_told_59 : decode cL_told 59 = .ok (.iload_n 3, 1) := by decide +kernel
theorem dL_told_60 : decode cL_told 60 = .ok (.iload 4, 2) := by decide +kernel
theorem dL_told_62 : decode cL_told 62 = .ok (.invokevirtual 22, 3) := by decide +kernel
theorem dL_told_65 : decode cL_told 65 = .ok (.i2l, 1) := by decide +kernel
theorem dL_told_66 : decode cL_told 66 = .ok (.ladd, 1) := by decide +kernel
theorem dL_told_67 : decode cL_told 67 = .ok (.lstore_n 1, 1) := by decide +kernel
theorem dL_told_68 : decode cL_told 68 = .ok (.iinc 4 1, 3) := by decide +kernel
theorem dL_told_71 : decode cL_told 71 = .ok (.goto (-29), 3) := by decide +kernel
theorem dL_told_74 : decode cL_told 74 = .ok (.iinc 3 1, 3) := by decide +kernel
theorem dL_told_77 : decode cL_told 77 = .ok (.goto (-44), 3) := by decide +kernel
theorem dL_told_80 : decode cL_told 80 = .ok (.iconst 0, 1) := by decide +kernel
theorem dL_told_81 : decode cL_told 81 = .ok (.istore_n 3, 1) := by decide +kernel
theorem dL_told_82 : decode cL_told 82 = .ok (.iload_n 3, 1) := by decide +kernel
theorem dL_told_83 : decode cL_told 83 = .ok (.aload_n 0, 1) := by decide +kernel
theorem dL_told_84 : decode cL_told 84 = .ok (.iconst 0, 1) := by decide +kernel
theorem dL_told_85 : decode cL_told 85 = .ok (.invokevirtual 12, 3) := by decide +kernel
theorem dL_told_88 : decode cL_told 88 = .ok (.if_icmp .ge 35, 3) := by decide +kernel
theorem dL_told_91 : decode cL_told 91 = .ok (.ldc2_w 10, 3) := by decide +kernel
theorem dL_told_94 : decode cL_told 94 = .ok (.ldc2_w 10, 3) := by decide +kernel
theorem dL_told_97 : decode cL_told 97 = .ok (.lload_n 1, 1) := by decide +kernel
theorem dL_told_98 : decode cL_told 98 = .ok (.lmul, 1) := by decide +kernel
theorem dL_told_99 : decode cL_told 99 = .ok (.aload_n 0, 1) := by decide +kernel
theorem dL_told_100 : decode cL_told 100 = .ok (.iload_n 3, 1) := by decide +kernel
theorem dL_told_101 : decode cL_told 101 = .ok (.iconst 0, 1) := by decide +kernel
theorem dL_told_102 : decode cL_told 102 = .ok (.invokevirtual 25, 3) := by decide +kernel
theorem dL_told_105 : decode cL_told 105 = .ok (.i2l, 1) := by decide +kernel
theorem dL_told_106 : decode cL_told 106 = .ok (.ladd, 1) := by decide +kernel
theorem dL_told_107 : decode cL_told 107 = .ok (.lmul, 1) := by decide +kernel
theorem dL_told_108 : decode cL_told 108 = .ok (.aload_n 0, 1) := by decide +kernel
theorem dL_told_109 : decode cL_told 109 = .ok (.iload_n 3, 1) := by decide +kernel
theorem dL_told_110 : decode cL_told 110 = .ok (.iconst 1, 1) := by decide +kernel
theorem dL_told_111 : decode cL_told 111 = .ok (.invokevirtual 25, 3) := by decide +kernel
theorem dL_told_114 : decode cL_told 114 = .ok (.i2l, 1) := by decide +kernel
theorem dL_told_115 : decode cL_told 115 = .ok (.ladd, 1) := by decide +kernel
theorem dL_told_116 : decode cL_told 116 = .ok (.lstore_n 1, 1) := by decide +kernel
theorem dL_told_117 : decode cL_told 117 = .ok (.iinc 3 1, 3) := by decide +kernel
theorem dL_told_120 : decode cL_told 120 = .ok (.goto (-38), 3) := by decide +kernel
theorem dL_told_123 : decode cL_told 123 = .ok (.lload_n 1, 1) := by decide +kernel
theorem dL_told_124 : decode cL_told 124 = .ok (.lreturn, 1) := by decide +kernel
theorem dL_act_0 : decode cL_act 0 = .ok (.iload_n 2, 1) := by decide +kernel
theorem dL_act_1 : decode cL_act 1 = .ok (.iload_n 2, 1) := by decide +kernel
theorem dL_act_2 : decode cL_act 2 = .ok (.bipush 20, 2) := by decide +kernel
theorem dL_act_4 : decode cL_act 4 = .ok (.ishr, 1) := by decide +kernel
theorem dL_act_5 : decode cL_act 5 = .ok (.iconst 1, 1) := by decide +kernel
theorem dL_act_6 : decode cL_act 6 = .ok (.iand, 1) := by decide +kernel
theorem dL_act_7 : decode cL_act 7 = .ok (.ifCond .ne 7, 3) := by decide +kernel
theorem dL_act_10 : decode cL_act 10 = .ok (.iconst 4, 1) := by decide +kernel
theorem dL_act_11 : decode cL_act 11 = .ok (.goto 5, 3) := by decide +kernel
theorem dL_act_14 : decode cL_act 14 = .ok (.bipush 12, 2) := by decide +kernel
theorem dL_act_16 : decode cL_act 16 = .ok (.invokestatic 28, 3) := by decide +kernel
theorem dL_act_19 : decode cL_act 19 = .ok (.istore_n 3, 1) := by decide +kernel
theorem dL_act_20 : decode cL_act 20 = .ok (.iload_n 1, 1) := by decide +kernel
theorem dL_act_21 : decode cL_act 21 = .ok (.bipush 15, 2) := by decide +kernel
theorem dL_act_23 : decode cL_act 23 = .ok (.iand, 1) := by decide +kernel
theorem dL_act_24 : decode cL_act 24 = .ok (.tableswitch 246 0 11 #[64, 64, 64, 64, 64, 64, 83, 83, 109, 109, 159, 192], 64) := by decide +kernel
theorem dL_act_88 : decode cL_act 88 = .ok (.aload_n 0, 1) := by decide +kernel
theorem dL_act_89 : decode cL_act 89 = .ok (.iload_n 3, 1) := by decide +kernel
theorem dL_act_90 : decode cL_act 90 = .ok (.invokevirtual 33, 3) := by decide +kernel
theorem dL_act_93 : decode cL_act 93 = .ok (.ifCond .eq 8, 3) := by decide +kernel
theorem dL_act_96 : decode cL_act 96 = .ok (.bipush (-9), 2) := by decide +kernel
theorem dL_act_98 : decode cL_act 98 = .ok (.goto 8, 3) := by decide +kernel
theorem dL_act_101 : decode cL_act 101 = .ok (.aload_n 0, 1) := by decide +kernel
theorem dL_act_102 : decode cL_act 102 = .ok (.iload_n 3, 1) := by decide +kernel
theorem dL_act_103 : decode cL_act 103 = .ok (.invokevirtual 36, 3) := by decide +kernel
theorem dL_act_106 : decode cL_act 106 = .ok (.ireturn, 1) := by decide +kernel
theorem dL_act_107 : decode cL_act 107 = .ok (.aload_n 0, 1) := by decide +kernel
theorem dL_act_108 : decode cL_act 108 = .ok (.iconst 1, 1) := by decide +kernel
theorem dL_act_109 : decode cL_act 109 = .ok (.iload_n 2, 1) := by decide +kernel
theorem dL_act_110 : decode cL_act 110 = .ok (.iload_n 2, 1) := by decide +kernel
theorem dL_act_111 : decode cL_act 111 = .ok (.bipush 20, 2) := by decide +kernel
theorem dL_act_113 : decode cL_act 113 = .ok (.ishr, 1) := by decide +kernel
theorem dL_act_114 : decode cL_act 114 = .ok (.iconst 1, 1) := by decide +kernel
theorem dL_act_115 : decode cL_act 115 = .ok (.iand, 1) := by decide +kernel
theorem dL_act_116 : decode cL_act 116 = .ok (.ifCond .ne 7, 3) := by decide +kernel
theorem dL_act_119 : decode cL_act 119 = .ok (.iconst 5, 1) := by decide +kernel
theorem dL_act_120 : decode cL_act 120 = .ok (.goto 5, 3) := by decide +kernel
theorem dL_act_123 : decode cL_act 123 = .ok (.bipush 60, 2) := by decide +kernel
theorem dL_act_125 : decode cL_act 125 = .ok (.invokestatic 28, 3) := by decide +kernel
theorem dL_act_128 : decode cL_act 128 = .ok (.iadd, 1) := by decide +kernel
theorem dL_act_129 : decode cL_act 129 = .ok (.invokevirtual 39, 3) := by decide +kernel
theorem dL_act_132 : decode cL_act 132 = .ok (.ireturn, 1) := by decide +kernel
theorem dL_act_133 : decode cL_act 133 = .ok (.aload_n 0, 1) := by decide +kernel
theorem dL_act_134 : decode cL_act 134 = .ok (.iconst 0, 1) := by decide +kernel
theorem dL_act_135 : decode cL_act 135 = .ok (.invokevirtual 12, 3) := by decide +kernel
theorem dL_act_138 : decode cL_act 138 = .ok (.ifCond .ne 7, 3) := by decide +kernel
theorem dL_act_141 : decode cL_act 141 = .ok (.iconst (-1), 1) := by decide +kernel
theorem dL_act_142 : decode cL_act 142 = .ok (.goto 12, 3) := by decide +kernel
theorem dL_act_145 : decode cL_act 145 = .ok (.iload_n 2, 1) := by decide +kernel
theorem dL_act_146 : decode cL_act 146 = .ok (.aload_n 0, 1) := by decide +kernel
theorem dL_act_147 : decode cL_act 147 = .ok (.iconst 0, 1) := by decide +kernel
theorem dL_act_148 : decode cL_act 148 = .ok (.invokevirtual 12, 3) := by decide +kernel
theorem dL_act_151 : decode cL_act 151 = .ok (.invokestatic 28, 3) := by decide +kernel
theorem dL_act_154 : decode cL_act 154 = .ok (.istore 4, 2) := by decide +kernel
theorem dL_act_156 : decode cL_act 156 = .ok (.iload 4, 2) := by decide +kernel
theorem dL_act_158 : decode cL_act 158 = .ok (.ifCond .lt 13, 3) := by decide +kernel
theorem dL_act_161 : decode cL_act 161 = .ok (.aload_n 0, 1) := by decide +kernel
theorem dL_act_162 : decode cL_act 162 = .ok (.iload 4, 2) := by decide +kernel
theorem dL_act_164 : decode cL_act 164 = .ok (.iconst 3, 1) := by decide +kernel
theorem dL_act_165 : decode cL_act 165 = .ok (.invokevirtual 25, 3) := by decide +kernel
theorem dL_act_168 : decode cL_act 168 = .ok (.ifCond .eq 8, 3) := by decide +kernel
theorem dL_act_171 : decode cL_act 171 = .ok (.bipush (-9), 2) := by decide +kernel
theorem dL_act_173 : decode cL_act 173 = .ok (.goto 9, 3) := by decide +kernel
theorem dL_act_176 : decode cL_act 176 = .ok (.aload_n 0, 1) := by decide +kernel
theorem dL_act_177 : decode cL_act 177 = .ok (.iload 4, 2) := by decide +kernel
theorem dL_act_179 : decode cL_act 179 = .ok (.invokevirtual 42, 3) := by decide +kernel
theorem dL_act_182 : decode cL_act 182 = .ok (.ireturn, 1) := by decide +kernel
theorem dL_act_183 : decode cL_act 183 = .ok (.aload_n 0, 1) := by decide +kernel
theorem dL_act_184 : decode cL_act 184 = .ok (.iconst 0, 1) := by decide +kernel
theorem dL_act_185 : decode cL_act 185 = .ok (.invokevirtual 12, 3) := by decide +kernel
theorem dL_act_188 : decode cL_act 188 = .ok (.bipush 8, 2) := by decide +kernel
theorem dL_act_190 : decode cL_act 190 = .ok (.if_icmp .le 8, 3) := by decide +kernel
theorem dL_act_193 : decode cL_act 193 = .ok (.bipush (-9), 2) := by decide +kernel
theorem dL_act_195 : decode cL_act 195 = .ok (.goto 20, 3) := by decide +kernel
theorem dL_act_198 : decode cL_act 198 = .ok (.iload_n 2, 1) := by decide +kernel
theorem dL_act_199 : decode cL_act 199 = .ok (.iconst 1, 1) := by decide +kernel
theorem dL_act_200 : decode cL_act 200 = .ok (.iand, 1) := by decide +kernel
theorem dL_act_201 : decode cL_act 201 = .ok (.ifCond .ne 10, 3) := by decide +kernel
theorem dL_act_204 : decode cL_act 204 = .ok (.aload_n 0, 1) := by decide +kernel
theorem dL_act_205 : decode cL_act 205 = .ok (.invokestatic 45, 3) := by decide +kernel
theorem dL_act_208 : decode cL_act 208 = .ok (.goto 7, 3) := by decide +kernel
theorem dL_act_211 : decode cL_act 211 = .ok (.aload_n 0, 1) := by decide +kernel
theorem dL_act_212 : decode cL_act 212 = .ok (.invokevirtual 49, 3) := by decide +kernel
theorem dL_act_215 : decode cL_act 215 = .ok (.ireturn, 1) := by decide +kernel
theorem dL_act_216 : decode cL_act 216 = .ok (.iload_n 2, 1) := by decide +kernel
theorem dL_act_217 : decode cL_act 217 = .ok (.iconst 3, 1) := by decide +kernel
theorem dL_act_218 : decode cL_act 218 = .ok (.invokestatic 28, 3) := by decide +kernel
theorem dL_act_221 : decode cL_act 221 = .ok (.istore 5, 2) := by decide +kernel
theorem dL_act_223 : decode cL_act 223 = .ok (.aload_n 0, 1) := by decide +kernel
theorem dL_act_224 : decode cL_act 224 = .ok (.iload 5, 2) := by decide +kernel
theorem dL_act_226 : decode cL_act 226 = .ok (.iload 5, 2) := by decide +kernel
theorem dL_act_228 : decode cL_act 228 = .ok (.ifCond .ne 17, 3) := by decide +kernel
theorem dL_act_231 : decode cL_act 231 = .ok (.bipush 20, 2) := by decide +kernel
theorem dL_act_233 : decode cL_act 233 = .ok (.iload_n 2, 1) := by decide +kernel
theorem dL_act_234 : decode cL_act 234 = .ok (.iconst 2, 1) := by decide +kernel
theorem dL_act_235 : decode cL_act 235 = .ok (.ishr, 1) := by decide +kernel
theorem dL_act_236 : decode cL_act 236 = .ok (.bipush 101, 2) := by decide +kernel
theorem dL_act_238 : decode cL_act 238 = .ok (.invokestatic 28, 3) := by decide +kernel
theorem dL_act_241 : decode cL_act 241 = .ok (.iadd, 1) := by decide +kernel
theorem dL_act_242 : decode cL_act 242 = .ok (.goto 24, 3) := by decide +kernel
theorem dL_act_245 : decode cL_act 245 = .ok (.iload 5, 2) := by decide +kernel
theorem dL_act_247 : decode cL_act 247 = .ok (.iconst 1, 1) := by decide +kernel
theorem dL_act_248 : decode cL_act 248 = .ok (.if_icmp .ne 13, 3) := by decide +kernel
theorem dL_act_251 : decode cL_act 251 = .ok (.iload_n 2, 1) := by decide +kernel
theorem dL_act_252 : decode cL_act 252 = .ok (.iconst 2, 1) := by decide +kernel
theorem dL_act_253 : decode cL_act 253 = .ok (.ishr, 1) := by decide +kernel
theorem dL_act_254 : decode cL_act 254 = .ok (.iconst 5, 1) := by decide +kernel
theorem dL_act_255 : decode cL_act 255 = .ok (.invokestatic 28, 3) := by decide +kernel
theorem dL_act_258 : decode cL_act 258 = .ok (.goto 8, 3) := by decide +kernel
theorem dL_act_261 : decode cL_act 261 = .ok (.iload_n 2, 1) := by decide +kernel
theorem dL_act_262 : decode cL_act 262 = .ok (.iconst 2, 1) := by decide +kernel
theorem dL_act_263 : decode cL_act 263 = .ok (.ishr, 1) := by decide +kernel
theorem dL_act_264 : decode cL_act 264 = .ok (.iconst 1, 1) := by decide +kernel
theorem dL_act_265 : decode cL_act 265 = .ok (.iand, 1) := by decide +kernel
theorem dL_act_266 : decode cL_act 266 = .ok (.invokevirtual 53, 3) := by decide +kernel
theorem dL_act_269 : decode cL_act 269 = .ok (.ireturn, 1) := by decide +kernel
theorem dL_act_270 : decode cL_act 270 = .ok (.aload_n 0, 1) := by decide +kernel
theorem dL_act_271 : decode cL_act 271 = .ok (.iload_n 2, 1) := by decide +kernel
theorem dL_act_272 : decode cL_act 272 = .ok (.bipush 12, 2) := by decide +kernel
theorem dL_act_274 : decode cL_act 274 = .ok (.invokestatic 28, 3) := by decide +kernel
theorem dL_act_277 : decode cL_act 277 = .ok (.iload_n 2, 1) := by decide +kernel
theorem dL_act_278 : decode cL_act 278 = .ok (.iconst 4, 1) := by decide +kernel
theorem dL_act_279 : decode cL_act 279 = .ok (.ishr, 1) := by decide +kernel
theorem dL_act_280 : decode cL_act 280 = .ok (.bipush 12, 2) := by decide +kernel
theorem dL_act_282 : decode cL_act 282 = .ok (.invokestatic 28, 3) := by decide +kernel
theorem dL_act_285 : decode cL_act 285 = .ok (.invokevirtual 56, 3) := by decide +kernel
theorem dL_act_288 : decode cL_act 288 = .ok (.ireturn, 1) := by decide +kernel
theorem dL_returns_0 : decode cL_returns 0 = .ok (.iconst 0, 1) := by decide +kernel
theorem dL_returns_1 : decode cL_returns 1 = .ok (.istore_n 1, 1) := by decide +kernel
theorem dL_returns_2 : decode cL_returns 2 = .ok (.iload_n 1, 1) := by decide +kernel
theorem dL_returns_3 : decode cL_returns 3 = .ok (.bipush 12, 2) := by decide +kernel
theorem dL_returns_5 : decode cL_returns 5 = .ok (.if_icmp .ge 65, 3) := by decide +kernel
theorem dL_returns_8 : decode cL_returns 8 = .ok (.aload_n 0, 1) := by decide +kernel
theorem dL_returns_9 : decode cL_returns 9 = .ok (.iload_n 1, 1) := by decide +kernel
theorem dL_returns_10 : decode cL_returns 10 = .ok (.iconst 0, 1) := by decide +kernel
theorem dL_returns_11 : decode cL_returns 11 = .ok (.invokevirtual 18, 3) := by decide +kernel
theorem dL_returns_14 : decode cL_returns 14 = .ok (.istore_n 2, 1) := by decide +kernel
theorem dL_returns_15 : decode cL_returns 15 = .ok (.iconst 0, 1) := by decide +kernel
theorem dL_returns_16 : decode cL_returns 16 = .ok (.istore_n 3, 1) := by decide +kernel
theorem dL_returns_17 : decode cL_returns 17 = .ok (.iload_n 3, 1) := by decide +kernel
theorem dL_returns_18 : decode cL_returns 18 = .ok (.aload_n 0, 1) := by decide +kernel
theorem dL_returns_19 : decode cL_returns 19 = .ok (.iconst 0, 1) := by decide +kernel
theorem dL_returns_20 : decode cL_returns 20 = .ok (.invokevirtual 12, 3) := by decide +kernel
theorem dL_returns_23 : decode cL_returns 23 = .ok (.if_icmp .ge 32, 3) := by decide +kernel
theorem dL_returns_26 : decode cL_returns 26 = .ok (.iload_n 2, 1) := by decide +kernel
theorem dL_returns_27 : decode cL_returns 27 = .ok (.aload_n 0, 1) := by decide +kernel
theorem dL_returns_28 : decode cL_returns 28 = .ok (.iload_n 3, 1) := by decide +kernel
theorem dL_returns_29 : decode cL_returns 29 = .ok (.aload_n 0, 1) := by decide +kernel
theorem dL_returns_30 : decode cL_returns 30 = .ok (.bipush 16, 2) := by decide +kernel
theorem dL_returns_32 : decode cL_returns 32 = .ok (.invokevirtual 12, 3) := by decide +kernel
theorem dL_returns_35 : decode cL_returns 35 = .ok (.invokevirtual 25, 3) := by decide +kernel
theorem dL_returns_38 : decode cL_returns 38 = .ok (.iload_n 1, 1) := by decide +kernel
theorem dL_returns_39 : decode cL_returns 39 = .ok (.if_icmp .ne 7, 3) := by decide +kernel
theorem dL_returns_42 : decode cL_returns 42 = .ok (.iconst 1, 1) := by decide +kernel
theorem dL_returns_43 : decode cL_returns 43 = .ok (.goto 4, 3) := by decide +kernel
theorem dL_returns_46 : decode cL_returns 46 = .ok (.iconst 0, 1) := by decide +kernel
theorem dL_returns_47 : decode cL_returns 47 = .ok (.iadd, 1) := by decide +kernel
theorem dL_returns_48 : decode cL_returns 48 = .ok (.istore_n 2, 1) := by decide +kernel
theorem dL_returns_49 : decode cL_returns 49 = .ok (.iinc 3 1, 3) := by decide +kernel
theorem dL_returns_52 : decode cL_returns 52 = .ok (.goto (-35), 3) := by decide +kernel
theorem dL_returns_55 : decode cL_returns 55 = .ok (.iload_n 2, 1) := by decide +kernel
theorem dL_returns_56 : decode cL_returns 56 = .ok (.bipush 20, 2) := by decide +kernel
theorem dL_returns_58 : decode cL_returns 58 = .ok (.if_icmp .le 6, 3) := by decide +kernel
theorem dL_returns_61 : decode cL_returns 61 = .ok (.bipush (-9), 2) := by decide +kernel
theorem dL_returns_63 : decode cL_returns 63 = .ok (.ireturn, 1) := by decide +kernel
theorem dL_returns_64 : decode cL_returns 64 = .ok (.iinc 1 1, 3) := by decide +kernel
theorem dL_returns_67 : decode cL_returns 67 = .ok (.goto (-65), 3) := by decide +kernel
theorem dL_returns_70 : decode cL_returns 70 = .ok (.aload_n 0, 1) := by decide +kernel
theorem dL_returns_71 : decode cL_returns 71 = .ok (.invokevirtual 59, 3) := by decide +kernel
theorem dL_returns_74 : decode cL_returns 74 = .ok (.ireturn, 1) := by decide +kernel
theorem dL_holds_0 : decode cL_holds 0 = .ok (.iconst 0, 1) := by decide +kernel
theorem dL_holds_1 : decode cL_holds 1 = .ok (.istore_n 2, 1) := by decide +kernel
theorem dL_holds_2 : decode cL_holds 2 = .ok (.iload_n 2, 1) := by decide +kernel
theorem dL_holds_3 : decode cL_holds 3 = .ok (.bipush 12, 2) := by decide +kernel
theorem dL_holds_5 : decode cL_holds 5 = .ok (.if_icmp .ge 13, 3) := by decide +kernel
theorem dL_holds_8 : decode cL_holds 8 = .ok (.aload_n 1, 1) := by decide +kernel
theorem dL_holds_9 : decode cL_holds 9 = .ok (.iload_n 2, 1) := by decide +kernel
theorem dL_holds_10 : decode cL_holds 10 = .ok (.iconst 0, 1) := by decide +kernel
theorem dL_holds_11 : decode cL_holds 11 = .ok (.iastore, 1) := by decide +kernel
theorem dL_holds_12 : decode cL_holds 12 = .ok (.iinc 2 1, 3) := by decide +kernel
theorem dL_holds_15 : decode cL_holds 15 = .ok (.goto (-13), 3) := by decide +kernel
theorem dL_holds_18 : decode cL_holds 18 = .ok (.iconst 0, 1) := by decide +kernel
theorem dL_holds_19 : decode cL_holds 19 = .ok (.istore_n 2, 1) := by decide +kernel
theorem dL_holds_20 : decode cL_holds 20 = .ok (.iconst 0, 1) := by decide +kernel
theorem dL_holds_21 : decode cL_holds 21 = .ok (.istore_n 3, 1) := by decide +kernel
theorem dL_holds_22 : decode cL_holds 22 = .ok (.iconst 0, 1) := by decide +kernel
theorem dL_holds_23 : decode cL_holds 23 = .ok (.istore 4, 2) := by decide +kernel
theorem dL_holds_25 : decode cL_holds 25 = .ok (.iconst 0, 1) := by decide +kernel
theorem dL_holds_26 : decode cL_holds 26 = .ok (.istore 5, 2) := by decide +kernel
theorem dL_holds_28 : decode cL_holds 28 = .ok (.iload 5, 2) := by decide +kernel
theorem dL_holds_30 : decode cL_holds 30 = .ok (.bipush 12, 2) := by decide +kernel
theorem dL_holds_32 : decode cL_holds 32 = .ok (.if_icmp .ge 179, 3) := by decide +kernel
theorem dL_holds_35 : decode cL_holds 35 = .ok (.aload_n 0, 1) := by decide +kernel
theorem dL_holds_36 : decode cL_holds 36 = .ok (.iload 5, 2) := by decide +kernel
theorem dL_holds_38 : decode cL_holds 38 = .ok (.iconst 0, 1) := by decide +kernel
theorem dL_holds_39 : decode cL_holds 39 = .ok (.invokevirtual 18, 3) := by decide +kernel
theorem dL_holds_42 : decode cL_holds 42 = .ok (.istore 6, 2) := by decide +kernel
theorem dL_holds_44 : decode cL_holds 44 = .ok (.iconst 0, 1) := by decide +kernel
theorem dL_holds_45 : decode cL_holds 45 = .ok (.istore 7, 2) := by decide +kernel
theorem dL_holds_47 : decode cL_holds 47 = .ok (.iconst 0, 1) := by decide +kernel
theorem dL_holds_48 : decode cL_holds 48 = .ok (.istore 8, 2) := by decide +kernel
theorem dL_holds_50 : decode cL_holds 50 = .ok (.iload 8, 2) := by decide +kernel
theorem dL_holds_52 : decode cL_holds 52 = .ok (.iload 6, 2) := by decide +kernel
theorem dL_holds_54 : decode cL_holds 54 = .ok (.if_icmp .ge 44, 3) := by decide +kernel
theorem dL_holds_57 : decode cL_holds 57 = .ok (.aload_n 0, 1) := by decide +kernel
theorem dL_holds_58 : decode cL_holds 58 = .ok (.iload 5, 2) := by decide +kernel
theorem dL_holds_60 : decode cL_holds 60 = .ok (.iload 8, 2) := by decide +kernel
theorem dL_holds_62 : decode cL_holds 62 = .ok (.invokevirtual 22, 3) := by decide +kernel
theorem dL_holds_65 : decode cL_holds 65 = .ok (.istore 9, 2) := by decide +kernel
theorem dL_holds_67 : decode cL_holds 67 = .ok (.aload_n 1, 1) := by decide +kernel
theorem dL_holds_68 : decode cL_holds 68 = .ok (.iload 9, 2) := by decide +kernel
theorem dL_holds_70 : decode cL_holds 70 = .ok (.dup2, 1) := by decide +kernel
theorem dL_holds_71 : decode cL_holds 71 = .ok (.iaload, 1) := by decide +kernel
theorem dL_holds_72 : decode cL_holds 72 = .ok (.iconst 1, 1) := by decide +kernel
theorem dL_holds_73 : decode cL_holds 73 = .ok (.iadd, 1) := by decide +kernel
theorem dL_holds_74 : decode cL_holds 74 = .ok (.iastore, 1) := by decide +kernel
theorem dL_holds_75 : decode cL_holds 75 = .ok (.iload 7, 2) := by decide +kernel
theorem dL_holds_77 : decode cL_holds 77 = .ok (.iload 9, 2) := by decide +kernel
theorem dL_holds_79 : decode cL_holds 79 = .ok (.iload 5, 2) := by decide +kernel
theorem dL_holds_81 : decode cL_holds 81 = .ok (.if_icmp .ne 7, 3) := by decide +kernel
theorem dL_holds_84 : decode cL_holds 84 = .ok (.iconst 0, 1) := by decide +kernel
theorem dL_holds_85 : decode cL_holds 85 = .ok (.goto 4, 3) := by decide +kernel
theorem dL_holds_88 : decode cL_holds 88 = .ok (.iconst 1, 1) := by decide +kernel
theorem dL_holds_89 : decode cL_holds 89 = .ok (.iadd, 1) := by decide +kernel
theorem dL_holds_90 : decode cL_holds 90 = .ok (.istore 7, 2) := by decide +kernel
theorem dL_holds_92 : decode cL_holds 92 = .ok (.iinc 8 1, 3) := by decide +kernel
theorem dL_holds_95 : decode cL_holds 95 = .ok (.goto (-45), 3) := by decide +kernel
theorem dL_holds_98 : decode cL_holds 98 = .ok (.iload 4, 2) := by decide +kernel
theorem dL_holds_100 : decode cL_holds 100 = .ok (.iload 6, 2) := by decide +kernel
theorem dL_holds_102 : decode cL_holds 102 = .ok (.iadd, 1) := by decide +kernel
theorem dL_holds_103 : decode cL_holds 103 = .ok (.istore 4, 2) := by decide +kernel
theorem dL_holds_105 : decode cL_holds 105 = .ok (.iload_n 2, 1) := by decide +kernel
theorem dL_holds_106 : decode cL_holds 106 = .ok (.iload 7, 2) := by decide +kernel
theorem dL_holds_108 : decode cL_holds 108 = .ok (.iadd, 1) := by decide +kernel
theorem dL_holds_109 : decode cL_holds 109 = .ok (.istore_n 2, 1) := by decide +kernel
theorem dL_holds_110 : decode cL_holds 110 = .ok (.iload_n 3, 1) := by decide +kernel
theorem dL_holds_111 : decode cL_holds 111 = .ok (.aload_n 0, 1) := by decide +kernel
theorem dL_holds_112 : decode cL_holds 112 = .ok (.iload 5, 2) := by decide +kernel
theorem dL_holds_114 : decode cL_holds 114 = .ok (.bipush 6, 2) := by decide +kernel
theorem dL_holds_116 : decode cL_holds 116 = .ok (.invokevirtual 18, 3) := by decide +kernel
theorem dL_holds_119 : decode cL_holds 119 = .ok (.iadd, 1) := by decide +kernel
theorem dL_holds_120 : decode cL_holds 120 = .ok (.istore_n 3, 1) := by decide +kernel
theorem dL_holds_121 : decode cL_holds 121 = .ok (.iload 6, 2) := by decide +kernel
theorem dL_holds_123 : decode cL_holds 123 = .ok (.bipush 20, 2) := by decide +kernel
theorem dL_holds_125 : decode cL_holds 125 = .ok (.if_icmp .gt 78, 3) := by decide +kernel
theorem dL_holds_128 : decode cL_holds 128 = .ok (.iload 7, 2) := by decide +kernel
theorem dL_holds_130 : decode cL_holds 130 = .ok (.aload_n 0, 1) := by decide +kernel
theorem dL_holds_131 : decode cL_holds 131 = .ok (.iload 5, 2) := by decide +kernel
theorem dL_holds_133 : decode cL_holds 133 = .ok (.iconst 1, 1) := by decide +kernel
theorem dL_holds_134 : decode cL_holds 134 = .ok (.invokevirtual 18, 3) := by decide +kernel
theorem dL_holds_137 : decode cL_holds 137 = .ok (.if_icmp .ne 66, 3) := by decide +kernel
theorem dL_holds_140 : decode cL_holds 140 = .ok (.aload_n 0, 1) := by decide +kernel
theorem dL_holds_141 : decode cL_holds 141 = .ok (.iload 5, 2) := by decide +kernel
theorem dL_holds_143 : decode cL_holds 143 = .ok (.iconst 4, 1) := by decide +kernel
theorem dL_holds_144 : decode cL_holds 144 = .ok (.invokevirtual 18, 3) := by decide +kernel
theorem dL_holds_147 : decode cL_holds 147 = .ok (.iconst 1, 1) := by decide +kernel
theorem dL_holds_148 : decode cL_holds 148 = .ok (.if_icmp .ne 7, 3) := by decide +kernel
theorem dL_holds_151 : decode cL_holds 151 = .ok (.iconst 1, 1) := by decide +kernel
theorem dL_holds_152 : decode cL_holds 152 = .ok (.goto 4, 3) := by decide +kernel
theorem dL_holds_155 : decode cL_holds 155 = .ok (.iconst 0, 1) := by decide +kernel
theorem dL_holds_156 : decode cL_holds 156 = .ok (.aload_n 0, 1) := by decide +kernel
theorem dL_holds_157 : decode cL_holds 157 = .ok (.bipush 7, 2) := by decide +kernel
theorem dL_holds_159 : decode cL_holds 159 = .ok (.invokevirtual 12, 3) := by decide +kernel
theorem dL_holds_162 : decode cL_holds 162 = .ok (.iload 5, 2) := by decide +kernel
theorem dL_holds_164 : decode cL_holds 164 = .ok (.if_icmp .ne 7, 3) := by decide +kernel
theorem dL_holds_167 : decode cL_holds 167 = .ok (.iconst 1, 1) := by decide +kernel
theorem dL_holds_168 : decode cL_holds 168 = .ok (.goto 4, 3) := by decide +kernel
theorem dL_holds_171 : decode cL_holds 171 = .ok (.iconst 0, 1) := by decide +kernel
theorem dL_holds_172 : decode cL_holds 172 = .ok (.if_icmp .ne 31, 3) := by decide +kernel
theorem dL_holds_175 : decode cL_holds 175 = .ok (.aload_n 0, 1) := by decide +kernel
theorem dL_holds_176 : decode cL_holds 176 = .ok (.iload 5, 2) := by decide +kernel
theorem dL_holds_178 : decode cL_holds 178 = .ok (.invokevirtual 33, 3) := by decide +kernel
theorem dL_holds_181 : decode cL_holds 181 = .ok (.iconst 1, 1) := by decide +kernel
theorem dL_holds_182 : decode cL_holds 182 = .ok (.if_icmp .ne 7, 3) := by decide +kernel
theorem dL_holds_185 : decode cL_holds 185 = .ok (.iconst 1, 1) := by decide +kernel
theorem dL_holds_186 : decode cL_holds 186 = .ok (.goto 4, 3) := by decide +kernel
theorem dL_holds_189 : decode cL_holds 189 = .ok (.iconst 0, 1) := by decide +kernel
theorem dL_holds_190 : decode cL_holds 190 = .ok (.iload 6, 2) := by decide +kernel
theorem dL_holds_192 : decode cL_holds 192 = .ok (.ifCond .ne 7, 3) := by decide +kernel
theorem dL_holds_195 : decode cL_holds 195 = .ok (.iconst 1, 1) := by decide +kernel
theorem dL_holds_196 : decode cL_holds 196 = .ok (.goto 4, 3) := by decide +kernel
theorem dL_holds_199 : decode cL_holds 199 = .ok (.iconst 0, 1) := by decide +kernel
theorem dL_holds_200 : decode cL_holds 200 = .ok (.if_icmp .eq 5, 3) := by decide +kernel
theorem dL_holds_203 : decode cL_holds 203 = .ok (.iconst 0, 1) := by decide +kernel
theorem dL_holds_204 : decode cL_holds 204 = .ok (.ireturn, 1) := by decide +kernel
theorem dL_holds_205 : decode cL_holds 205 = .ok (.iinc 5 1, 3) := by decide +kernel
theorem dL_holds_208 : decode cL_holds 208 = .ok (.goto (-180), 3) := by decide +kernel
theorem dL_holds_211 : decode cL_holds 211 = .ok (.iconst 0, 1) := by decide +kernel
theorem dL_holds_212 : decode cL_holds 212 = .ok (.istore 5, 2) := by decide +kernel
theorem dL_holds_214 : decode cL_holds 214 = .ok (.iconst 0, 1) := by decide +kernel
theorem dL_holds_215 : decode cL_holds 215 = .ok (.istore 6, 2) := by decide +kernel
theorem dL_holds_217 : decode cL_holds 217 = .ok (.iconst 0, 1) := by decide +kernel
theorem dL_holds_218 : decode cL_holds 218 = .ok (.istore 7, 2) := by decide +kernel
theorem dL_holds_220 : decode cL_holds 220 = .ok (.iload 7, 2) := by decide +kernel
theorem dL_holds_222 : decode cL_holds 222 = .ok (.aload_n 0, 1) := by decide +kernel
theorem dL_holds_223 : decode cL_holds 223 = .ok (.iconst 0, 1) := by decide +kernel
theorem dL_holds_224 : decode cL_holds 224 = .ok (.invokevirtual 12, 3) := by decide +kernel
theorem dL_holds_227 : decode cL_holds 227 = .ok (.if_icmp .ge 139, 3) := by decide +kernel
theorem dL_holds_230 : decode cL_holds 230 = .ok (.aload_n 1, 1) := by decide +kernel
theorem dL_holds_231 : decode cL_holds 231 = .ok (.aload_n 0, 1) := by decide +kernel
theorem dL_holds_232 : decode cL_holds 232 = .ok (.iload 7, 2) := by decide +kernel
theorem dL_holds_234 : decode cL_holds 234 = .ok (.iconst 0, 1) := by decide +kernel
theorem dL_holds_235 : decode cL_holds 235 = .ok (.invokevirtual 25, 3) := by decide +kernel
theorem dL_holds_238 : decode cL_holds 238 = .ok (.dup2, 1) := by decide +kernel
theorem dL_holds_239 : decode cL_holds 239 = .ok (.iaload, 1) := by decide +kernel
theorem dL_holds_240 : decode cL_holds 240 = .ok (.iconst 1, 1) := by decide +kernel
theorem dL_holds_241 : decode cL_holds 241 = .ok (.iadd, 1) := by decide +kernel
theorem dL_holds_242 : decode cL_holds 242 = .ok (.iastore, 1) := by decide +kernel
theorem dL_holds_243 : decode cL_holds 243 = .ok (.iload 5, 2) := by decide +kernel
theorem dL_holds_245 : decode cL_holds 245 = .ok (.aload_n 0, 1) := by decide +kernel
theorem dL_holds_246 : decode cL_holds 246 = .ok (.iload 7, 2) := by decide +kernel
theorem dL_holds_248 : decode cL_holds 248 = .ok (.iconst 2, 1) := by decide +kernel
theorem dL_holds_249 : decode cL_holds 249 = .ok (.invokevirtual 25, 3) := by decide +kernel
theorem dL_holds_252 : decode cL_holds 252 = .ok (.iadd, 1) := by decide +kernel
theorem dL_holds_253 : decode cL_holds 253 = .ok (.istore 5, 2) := by decide +kernel
theorem dL_holds_255 : decode cL_holds 255 = .ok (.iload 6, 2) := by decide +kernel
theorem dL_holds_257 : decode cL_holds 257 = .ok (.aload_n 0, 1) := by decide +kernel
theorem dL_holds_258 : decode cL_holds 258 = .ok (.aload_n 0, 1) := by decide +kernel
theorem dL_holds_259 : decode cL_holds 259 = .ok (.iload 7, 2) := by decide +kernel
theorem dL_holds_261 : decode cL_holds 261 = .ok (.iconst 0, 1) := by decide +kernel
theorem dL_holds_262 : decode cL_holds 262 = .ok (.invokevirtual 25, 3) := by decide +kernel
theorem dL_holds_265 : decode cL_holds 265 = .ok (.iconst 3, 1) := by decide +kernel
theorem dL_holds_266 : decode cL_holds 266 = .ok (.invokevirtual 18, 3) := by decide +kernel
theorem dL_holds_269 : decode cL_holds 269 = .ok (.iload 7, 2) := by decide +kernel
theorem dL_holds_271 : decode cL_holds 271 = .ok (.ifCond .le 7, 3) := by decide +kernel
theorem dL_holds_274 : decode cL_holds 274 = .ok (.iconst 1, 1) := by decide +kernel
theorem dL_holds_275 : decode cL_holds 275 = .ok (.goto 4, 3) := by decide +kernel
theorem dL_holds_278 : decode cL_holds 278 = .ok (.iconst 0, 1) := by decide +kernel
theorem dL_holds_279 : decode cL_holds 279 = .ok (.iadd, 1) := by decide +kernel
theorem dL_holds_280 : decode cL_holds 280 = .ok (.iadd, 1) := by decide +kernel
theorem dL_holds_281 : decode cL_holds 281 = .ok (.istore 6, 2) := by decide +kernel
theorem dL_holds_283 : decode cL_holds 283 = .ok (.aload_n 0, 1) := by decide +kernel
theorem dL_holds_284 : decode cL_holds 284 = .ok (.iload 7, 2) := by decide +kernel
theorem dL_holds_286 : decode cL_holds 286 = .ok (.iconst 2, 1) := by decide +kernel
theorem dL_holds_287 : decode cL_holds 287 = .ok (.invokevirtual 25, 3) := by decide +kernel
theorem dL_holds_290 : decode cL_holds 290 = .ok (.iconst 1, 1) := by decide +kernel
theorem dL_holds_291 : decode cL_holds 291 = .ok (.if_icmp .ne 7, 3) := by decide +kernel
theorem dL_holds_294 : decode cL_holds 294 = .ok (.iconst 1, 1) := by decide +kernel
theorem dL_holds_295 : decode cL_holds 295 = .ok (.goto 4, 3) := by decide +kernel
theorem dL_holds_298 : decode cL_holds 298 = .ok (.iconst 0, 1) := by decide +kernel
theorem dL_holds_299 : decode cL_holds 299 = .ok (.aload_n 0, 1) := by decide +kernel
theorem dL_holds_300 : decode cL_holds 300 = .ok (.iload 7, 2) := by decide +kernel
theorem dL_holds_302 : decode cL_holds 302 = .ok (.iconst 0, 1) := by decide +kernel
theorem dL_holds_303 : decode cL_holds 303 = .ok (.invokevirtual 25, 3) := by decide +kernel
theorem dL_holds_306 : decode cL_holds 306 = .ok (.aload_n 0, 1) := by decide +kernel
theorem dL_holds_307 : decode cL_holds 307 = .ok (.iload 7, 2) := by decide +kernel
theorem dL_holds_309 : decode cL_holds 309 = .ok (.iconst 1, 1) := by decide +kernel
theorem dL_holds_310 : decode cL_holds 310 = .ok (.invokevirtual 25, 3) := by decide +kernel
theorem dL_holds_313 : decode cL_holds 313 = .ok (.if_icmp .eq 7, 3) := by decide +kernel
theorem dL_holds_316 : decode cL_holds 316 = .ok (.iconst 1, 1) := by decide +kernel
theorem dL_holds_317 : decode cL_holds 317 = .ok (.goto 4, 3) := by decide +kernel
theorem dL_holds_320 : decode cL_holds 320 = .ok (.iconst 0, 1) := by decide +kernel
theorem dL_holds_321 : decode cL_holds 321 = .ok (.if_icmp .ne 37, 3) := by decide +kernel
theorem dL_holds_324 : decode cL_holds 324 = .ok (.aload_n 0, 1) := by decide +kernel
theorem dL_holds_325 : decode cL_holds 325 = .ok (.iload 7, 2) := by decide +kernel
theorem dL_holds_327 : decode cL_holds 327 = .ok (.iconst 3, 1) := by decide +kernel
theorem dL_holds_328 : decode cL_holds 328 = .ok (.invokevirtual 25, 3) := by decide +kernel
theorem dL_holds_331 : decode cL_holds 331 = .ok (.iconst 3, 1) := by decide +kernel
theorem dL_holds_332 : decode cL_holds 332 = .ok (.if_icmp .ne 7, 3) := by decide +kernel
theorem dL_holds_335 : decode cL_holds 335 = .ok (.iconst 1, 1) := by decide +kernel
theorem dL_holds_336 : decode cL_holds 336 = .ok (.goto 4, 3) := by decide +kernel
theorem dL_holds_339 : decode cL_holds 339 = .ok (.iconst 0, 1) := by decide +kernel
theorem dL_holds_340 : decode cL_holds 340 = .ok (.aload_n 0, 1) := by decide +kernel
theorem dL_holds_341 : decode cL_holds 341 = .ok (.iload 7, 2) := by decide +kernel
theorem dL_holds_343 : decode cL_holds 343 = .ok (.iconst 2, 1) := by decide +kernel
theorem dL_holds_344 : decode cL_holds 344 = .ok (.invokevirtual 25, 3) := by decide +kernel
theorem dL_holds_347 : decode cL_holds 347 = .ok (.ifCond .ne 7, 3) := by decide +kernel
theorem dL_holds_350 : decode cL_holds 350 = .ok (.iconst 1, 1) := by decide +kernel
theorem dL_holds_351 : decode cL_holds 351 = .ok (.goto 4, 3) := by decide +kernel
theorem dL_holds_354 : decode cL_holds 354 = .ok (.iconst 0, 1) := by decide +kernel
theorem dL_holds_355 : decode cL_holds 355 = .ok (.if_icmp .eq 5, 3) := by decide +kernel
theorem dL_holds_358 : decode cL_holds 358 = .ok (.iconst 0, 1) := by decide +kernel
theorem dL_holds_359 : decode cL_holds 359 = .ok (.ireturn, 1) := by decide +kernel
theorem dL_holds_360 : decode cL_holds 360 = .ok (.iinc 7 1, 3) := by decide +kernel
theorem dL_holds_363 : decode cL_holds 363 = .ok (.goto (-143), 3) := by decide +kernel
theorem dL_holds_366 : decode cL_holds 366 = .ok (.iconst 0, 1) := by decide +kernel
theorem dL_holds_367 : decode cL_holds 367 = .ok (.istore 7, 2) := by decide +kernel
theorem dL_holds_369 : decode cL_holds 369 = .ok (.iload 7, 2) := by decide +kernel
theorem dL_holds_371 : decode cL_holds 371 = .ok (.bipush 12, 2) := by decide +kernel
theorem dL_holds_373 : decode cL_holds 373 = .ok (.if_icmp .ge 20, 3) := by decide +kernel
theorem dL_holds_376 : decode cL_holds 376 = .ok (.aload_n 1, 1) := by decide +kernel
theorem dL_holds_377 : decode cL_holds 377 = .ok (.iload 7, 2) := by decide +kernel
theorem dL_holds_379 : decode cL_holds 379 = .ok (.iaload, 1) := by decide +kernel
theorem dL_holds_380 : decode cL_holds 380 = .ok (.bipush 6, 2) := by decide +kernel
theorem dL_holds_382 : decode cL_holds 382 = .ok (.if_icmp .eq 5, 3) := by decide +kernel
theorem dL_holds_385 : decode cL_holds 385 = .ok (.iconst 0, 1) := by decide +kernel
theorem dL_holds_386 : decode cL_holds 386 = .ok (.ireturn, 1) := by decide +kernel
theorem dL_holds_387 : decode cL_holds 387 = .ok (.iinc 7 1, 3) := by decide +kernel
theorem dL_holds_390 : decode cL_holds 390 = .ok (.goto (-21), 3) := by decide +kernel
theorem dL_holds_393 : decode cL_holds 393 = .ok (.aload_n 0, 1) := by decide +kernel
theorem dL_holds_394 : decode cL_holds 394 = .ok (.iconst 3, 1) := by decide +kernel
theorem dL_holds_395 : decode cL_holds 395 = .ok (.invokevirtual 12, 3) := by decide +kernel
theorem dL_holds_398 : decode cL_holds 398 = .ok (.iload 4, 2) := by decide +kernel
theorem dL_holds_400 : decode cL_holds 400 = .ok (.if_icmp .ne 61, 3) := by decide +kernel
theorem dL_holds_403 : decode cL_holds 403 = .ok (.iload 4, 2) := by decide +kernel
theorem dL_holds_405 : decode cL_holds 405 = .ok (.aload_n 0, 1) := by decide +kernel
theorem dL_holds_406 : decode cL_holds 406 = .ok (.iconst 0, 1) := by decide +kernel
theorem dL_holds_407 : decode cL_holds 407 = .ok (.invokevirtual 12, 3) := by decide +kernel
theorem dL_holds_410 : decode cL_holds 410 = .ok (.iadd, 1) := by decide +kernel
theorem dL_holds_411 : decode cL_holds 411 = .ok (.bipush 72, 2) := by decide +kernel
theorem dL_holds_413 : decode cL_holds 413 = .ok (.if_icmp .ne 48, 3) := by decide +kernel
theorem dL_holds_416 : decode cL_holds 416 = .ok (.aload_n 0, 1) := by decide +kernel
theorem dL_holds_417 : decode cL_holds 417 = .ok (.iconst 4, 1) := by decide +kernel
theorem dL_holds_418 : decode cL_holds 418 = .ok (.invokevirtual 12, 3) := by decide +kernel
theorem dL_holds_421 : decode cL_holds 421 = .ok (.iload_n 2, 1) := by decide +kernel
theorem dL_holds_422 : decode cL_holds 422 = .ok (.if_icmp .ne 39, 3) := by decide +kernel
theorem dL_holds_425 : decode cL_holds 425 = .ok (.aload_n 0, 1) := by decide +kernel
theorem dL_holds_426 : decode cL_holds 426 = .ok (.iconst 5, 1) := by decide +kernel
theorem dL_holds_427 : decode cL_holds 427 = .ok (.invokevirtual 12, 3) := by decide +kernel
theorem dL_holds_430 : decode cL_holds 430 = .ok (.iload_n 2, 1) := by decide +kernel
theorem dL_holds_431 : decode cL_holds 431 = .ok (.if_icmp .ne 30, 3) := by decide +kernel
theorem dL_holds_434 : decode cL_holds 434 = .ok (.iload_n 3, 1) := by decide +kernel
theorem dL_holds_435 : decode cL_holds 435 = .ok (.iload_n 2, 1) := by decide +kernel
theorem dL_holds_436 : decode cL_holds 436 = .ok (.if_icmp .ne 25, 3) := by decide +kernel
theorem dL_holds_439 : decode cL_holds 439 = .ok (.aload_n 0, 1) := by decide +kernel
theorem dL_holds_440 : decode cL_holds 440 = .ok (.bipush 6, 2) := by decide +kernel
theorem dL_holds_442 : decode cL_holds 442 = .ok (.invokevirtual 12, 3) := by decide +kernel
theorem dL_holds_445 : decode cL_holds 445 = .ok (.iload_n 2, 1) := by decide +kernel
theorem dL_holds_446 : decode cL_holds 446 = .ok (.ifCond .ne 7, 3) := by decide +kernel
theorem dL_holds_449 : decode cL_holds 449 = .ok (.iconst 1, 1) := by decide +kernel
theorem dL_holds_450 : decode cL_holds 450 = .ok (.goto 4, 3) := by decide +kernel
theorem dL_holds_453 : decode cL_holds 453 = .ok (.iconst 0, 1) := by decide +kernel
theorem dL_holds_454 : decode cL_holds 454 = .ok (.if_icmp .ne 7, 3) := by decide +kernel
theorem dL_holds_457 : decode cL_holds 457 = .ok (.iconst 1, 1) := by decide +kernel
theorem dL_holds_458 : decode cL_holds 458 = .ok (.goto 4, 3) := by decide +kernel
theorem dL_holds_461 : decode cL_holds 461 = .ok (.iconst 0, 1) := by decide +kernel
theorem dL_holds_462 : decode cL_holds 462 = .ok (.istore 7, 2) := by decide +kernel
theorem dL_holds_464 : decode cL_holds 464 = .ok (.iload 7, 2) := by decide +kernel
theorem dL_holds_466 : decode cL_holds 466 = .ok (.ifCond .eq 35, 3) := by decide +kernel
theorem dL_holds_469 : decode cL_holds 469 = .ok (.aload_n 0, 1) := by decide +kernel
theorem dL_holds_470 : decode cL_holds 470 = .ok (.iconst 2, 1) := by decide +kernel
theorem dL_holds_471 : decode cL_holds 471 = .ok (.invokevirtual 12, 3) := by decide +kernel
theorem dL_holds_474 : decode cL_holds 474 = .ok (.iload 5, 2) := by decide +kernel
theorem dL_holds_476 : decode cL_holds 476 = .ok (.if_icmp .ne 25, 3) := by decide +kernel
theorem dL_holds_479 : decode cL_holds 479 = .ok (.aload_n 0, 1) := by decide +kernel
theorem dL_holds_480 : decode cL_holds 480 = .ok (.iconst 1, 1) := by decide +kernel
theorem dL_holds_481 : decode cL_holds 481 = .ok (.invokevirtual 12, 3) := by decide +kernel
theorem dL_holds_484 : decode cL_holds 484 = .ok (.iload 6, 2) := by decide +kernel
theorem dL_holds_486 : decode cL_holds 486 = .ok (.if_icmp .ne 15, 3) := by decide +kernel
theorem dL_holds_489 : decode cL_holds 489 = .ok (.aload_n 0, 1) := by decide +kernel
theorem dL_holds_490 : decode cL_holds 490 = .ok (.invokevirtual 62, 3) := by decide +kernel
theorem dL_holds_493 : decode cL_holds 493 = .ok (.iload_n 2, 1) := by decide +kernel
theorem dL_holds_494 : decode cL_holds 494 = .ok (.if_icmp .gt 7, 3) := by decide +kernel
theorem dL_holds_497 : decode cL_holds 497 = .ok (.iconst 1, 1) := by decide +kernel
theorem dL_holds_498 : decode cL_holds 498 = .ok (.goto 4, 3) := by decide +kernel
theorem dL_holds_501 : decode cL_holds 501 = .ok (.iconst 0, 1) := by decide +kernel
theorem dL_holds_502 : decode cL_holds 502 = .ok (.ireturn, 1) := by decide +kernel
theorem dL_isHand_0 : decode cL_isHand 0 = .ok (.aload_n 0, 1) := by decide +kernel
theorem dL_isHand_1 : decode cL_isHand 1 = .ok (.iload_n 1, 1) := by decide +kernel
theorem dL_isHand_2 : decode cL_isHand 2 = .ok (.invokevirtual 33, 3) := by decide +kernel
theorem dL_isHand_5 : decode cL_isHand 5 = .ok (.ifCond .eq 5, 3) := by decide +kernel
theorem dL_isHand_8 : decode cL_isHand 8 = .ok (.iconst 1, 1) := by decide +kernel
theorem dL_isHand_9 : decode cL_isHand 9 = .ok (.ireturn, 1) := by decide +kernel
theorem dL_isHand_10 : decode cL_isHand 10 = .ok (.aload_n 0, 1) := by decide +kernel
theorem dL_isHand_11 : decode cL_isHand 11 = .ok (.iload_n 1, 1) := by decide +kernel
theorem dL_isHand_12 : decode cL_isHand 12 = .ok (.iconst 0, 1) := by decide +kernel
theorem dL_isHand_13 : decode cL_isHand 13 = .ok (.invokevirtual 18, 3) := by decide +kernel
theorem dL_isHand_16 : decode cL_isHand 16 = .ok (.istore_n 2, 1) := by decide +kernel
theorem dL_isHand_17 : decode cL_isHand 17 = .ok (.aload_n 0, 1) := by decide +kernel
theorem dL_isHand_18 : decode cL_isHand 18 = .ok (.iload_n 1, 1) := by decide +kernel
theorem dL_isHand_19 : decode cL_isHand 19 = .ok (.iconst 2, 1) := by decide +kernel
theorem dL_isHand_20 : decode cL_isHand 20 = .ok (.invokevirtual 18, 3) := by decide +kernel
theorem dL_isHand_23 : decode cL_isHand 23 = .ok (.istore_n 3, 1) := by decide +kernel
theorem dL_isHand_24 : decode cL_isHand 24 = .ok (.aload_n 0, 1) := by decide +kernel
theorem dL_isHand_25 : decode cL_isHand 25 = .ok (.bipush 11, 2) := by decide +kernel
theorem dL_isHand_27 : decode cL_isHand 27 = .ok (.invokevirtual 12, 3) := by decide +kernel
theorem dL_isHand_30 : decode cL_isHand 30 = .ok (.istore 4, 2) := by decide +kernel
theorem dL_isHand_32 : decode cL_isHand 32 = .ok (.aload_n 0, 1) := by decide +kernel
theorem dL_isHand_33 : decode cL_isHand 33 = .ok (.invokestatic 65, 3) := by decide +kernel
theorem dL_isHand_36 : decode cL_isHand 36 = .ok (.lstore 5, 2) := by decide +kernel
theorem dL_isHand_38 : decode cL_isHand 38 = .ok (.aload_n 0, 1) := by decide +kernel
theorem dL_isHand_39 : decode cL_isHand 39 = .ok (.iload_n 1, 1) := by decide +kernel
theorem dL_isHand_40 : decode cL_isHand 40 = .ok (.invokevirtual 36, 3) := by decide +kernel
theorem dL_isHand_43 : decode cL_isHand 43 = .ok (.iload_n 3, 1) := by decide +kernel
theorem dL_isHand_44 : decode cL_isHand 44 = .ok (.if_icmp .ne 47, 3) := by decide +kernel
theorem dL_isHand_47 : decode cL_isHand 47 = .ok (.aload_n 0, 1) := by decide +kernel
theorem dL_isHand_48 : decode cL_isHand 48 = .ok (.iload_n 1, 1) := by decide +kernel
theorem dL_isHand_49 : decode cL_isHand 49 = .ok (.iconst 0, 1) := by decide +kernel
theorem dL_isHand_50 : decode cL_isHand 50 = .ok (.invokevirtual 18, 3) := by decide +kernel
theorem dL_isHand_53 : decode cL_isHand 53 = .ok (.iload_n 2, 1) := by decide +kernel
theorem dL_isHand_54 : decode cL_isHand 54 = .ok (.iconst 1, 1) := by decide +kernel
theorem dL_isHand_55 : decode cL_isHand 55 = .ok (.isub, 1) := by decide +kernel
theorem dL_isHand_56 : decode cL_isHand 56 = .ok (.if_icmp .ne 35, 3) := by decide +kernel
theorem dL_isHand_59 : decode cL_isHand 59 = .ok (.aload_n 0, 1) := by decide +kernel
theorem dL_isHand_60 : decode cL_isHand 60 = .ok (.bipush 7, 2) := by decide +kernel
theorem dL_isHand_62 : decode cL_isHand 62 = .ok (.invokevirtual 12, 3) := by decide +kernel
theorem dL_isHand_65 : decode cL_isHand 65 = .ok (.iload_n 1, 1) := by decide +kernel
theorem dL_isHand_66 : decode cL_isHand 66 = .ok (.if_icmp .ne 25, 3) := by decide +kernel
theorem dL_isHand_69 : decode cL_isHand 69 = .ok (.aload_n 0, 1) := by decide +kernel
theorem dL_isHand_70 : decode cL_isHand 70 = .ok (.bipush 11, 2) := by decide +kernel
theorem dL_isHand_72 : decode cL_isHand 72 = .ok (.invokevirtual 12, 3) := by decide +kernel
theorem dL_isHand_75 : decode cL_isHand 75 = .ok (.iload 4, 2) := by decide +kernel
theorem dL_isHand_77 : decode cL_isHand 77 = .ok (.aload_n 0, 1) := by decide +kernel
theorem dL_isHand_78 : decode cL_isHand 78 = .ok (.bipush 15, 2) := by decide +kernel
theorem dL_isHand_80 : decode cL_isHand 80 = .ok (.invokevirtual 12, 3) := by decide +kernel
theorem dL_isHand_83 : decode cL_isHand 83 = .ok (.iadd, 1) := by decide +kernel
theorem dL_isHand_84 : decode cL_isHand 84 = .ok (.if_icmp .ne 7, 3) := by decide +kernel
theorem dL_isHand_87 : decode cL_isHand 87 = .ok (.iconst 1, 1) := by decide +kernel
theorem dL_isHand_88 : decode cL_isHand 88 = .ok (.goto 4, 3) := by decide +kernel
theorem dL_isHand_91 : decode cL_isHand 91 = .ok (.iconst 0, 1) := by decide +kernel
theorem dL_isHand_92 : decode cL_isHand 92 = .ok (.istore 7, 2) := by decide +kernel
theorem dL_isHand_94 : decode cL_isHand 94 = .ok (.aload_n 0, 1) := by decide +kernel
theorem dL_isHand_95 : decode cL_isHand 95 = .ok (.invokevirtual 69, 3) := by decide +kernel
theorem dL_isHand_98 : decode cL_isHand 98 = .ok (.pop, 1) := by decide +kernel
theorem dL_isHand_99 : decode cL_isHand 99 = .ok (.iload 7, 2) := by decide +kernel
theorem dL_isHand_101 : decode cL_isHand 101 = .ok (.ifCond .eq 17, 3) := by decide +kernel
theorem dL_isHand_104 : decode cL_isHand 104 = .ok (.aload_n 0, 1) := by decide +kernel
theorem dL_isHand_105 : decode cL_isHand 105 = .ok (.invokestatic 65, 3) := by decide +kernel
theorem dL_isHand_108 : decode cL_isHand 108 = .ok (.lload 5, 2) := by decide +kernel
theorem dL_isHand_110 : decode cL_isHand 110 = .ok (.lcmp, 1) := by decide +kernel
theorem dL_isHand_111 : decode cL_isHand 111 = .ok (.ifCond .ne 7, 3) := by decide +kernel
theorem dL_isHand_114 : decode cL_isHand 114 = .ok (.iconst 1, 1) := by decide +kernel
theorem dL_isHand_115 : decode cL_isHand 115 = .ok (.goto 4, 3) := by decide +kernel
theorem dL_isHand_118 : decode cL_isHand 118 = .ok (.iconst 0, 1) := by decide +kernel
theorem dL_isHand_119 : decode cL_isHand 119 = .ok (.ireturn, 1) := by decide +kernel
theorem dL_law_0 : decode cL_law 0 = .ok (.new 13, 3) := by decide +kernel
theorem dL_law_3 : decode cL_law 3 = .ok (.dup, 1) := by decide +kernel
theorem dL_law_4 : decode cL_law 4 = .ok (.invokespecial 72, 3) := by decide +kernel
theorem dL_law_7 : decode cL_law 7 = .ok (.astore_n 1, 1) := by decide +kernel
theorem dL_law_8 : decode cL_law 8 = .ok (.bipush 12, 2) := by decide +kernel
theorem dL_law_10 : decode cL_law 10 = .ok (.newarray .int, 2) := by decide +kernel
theorem dL_law_12 : decode cL_law 12 = .ok (.astore_n 2, 1) := by decide +kernel
theorem dL_law_13 : decode cL_law 13 = .ok (.aload_n 1, 1) := by decide +kernel
theorem dL_law_14 : decode cL_law 14 = .ok (.invokevirtual 73, 3) := by decide +kernel
theorem dL_law_17 : decode cL_law 17 = .ok (.ifCond .ne 28, 3) := by decide +kernel
theorem dL_law_20 : decode cL_law 20 = .ok (.aload_n 1, 1) := by decide +kernel
theorem dL_law_21 : decode cL_law 21 = .ok (.invokevirtual 76, 3) := by decide +kernel
theorem dL_law_24 : decode cL_law 24 = .ok (.dconst 1, 1) := by decide +kernel
theorem dL_law_25 : decode cL_law 25 = .ok (.dcmp .l, 1) := by decide +kernel
theorem dL_law_26 : decode cL_law 26 = .ok (.ifCond .ne 19, 3) := by decide +kernel
theorem dL_law_29 : decode cL_law 29 = .ok (.aload_n 1, 1) := by decide +kernel
theorem dL_law_30 : decode cL_law 30 = .ok (.invokevirtual 80, 3) := by decide +kernel
theorem dL_law_33 : decode cL_law 33 = .ok (.ifCond .ne 12, 3) := by decide +kernel
theorem dL_law_36 : decode cL_law 36 = .ok (.aload_n 1, 1) := by decide +kernel
theorem dL_law_37 : decode cL_law 37 = .ok (.iconst 0, 1) := by decide +kernel
theorem dL_law_38 : decode cL_law 38 = .ok (.invokevirtual 83, 3) := by decide +kernel
theorem dL_law_41 : decode cL_law 41 = .ok (.iconst (-1), 1) := by decide +kernel
theorem dL_law_42 : decode cL_law 42 = .ok (.if_icmp .eq 5, 3) := by decide +kernel
theorem dL_law_45 : decode cL_law 45 = .ok (.iconst 0, 1) := by decide +kernel
theorem dL_law_46 : decode cL_law 46 = .ok (.ireturn, 1) := by decide +kernel
theorem dL_law_47 : decode cL_law 47 = .ok (.iconst 0, 1) := by decide +kernel
theorem dL_law_48 : decode cL_law 48 = .ok (.istore_n 3, 1) := by decide +kernel
theorem dL_law_49 : decode cL_law 49 = .ok (.iload_n 3, 1) := by decide +kernel
theorem dL_law_50 : decode cL_law 50 = .ok (.bipush 36, 2) := by decide +kernel
theorem dL_law_52 : decode cL_law 52 = .ok (.if_icmp .ge 220, 3) := by decide +kernel
theorem dL_law_55 : decode cL_law 55 = .ok (.iload_n 3, 1) := by decide +kernel
theorem dL_law_56 : decode cL_law 56 = .ok (.iconst 3, 1) := by decide +kernel
theorem dL_law_57 : decode cL_law 57 = .ok (.if_icmp .ge 8, 3) := by decide +kernel
theorem dL_law_60 : decode cL_law 60 = .ok (.bipush 12, 2) := by decide +kernel
theorem dL_law_62 : decode cL_law 62 = .ok (.goto 10, 3) := by decide +kernel
theorem dL_law_65 : decode cL_law 65 = .ok (.aload_n 0, 1) := by decide +kernel
theorem dL_law_66 : decode cL_law 66 = .ok (.iconst 2, 1) := by decide +kernel
theorem dL_law_67 : decode cL_law 67 = .ok (.iload_n 3, 1) := by decide +kernel
theorem dL_law_68 : decode cL_law 68 = .ok (.imul, 1) := by decide +kernel
theorem dL_law_69 : decode cL_law 69 = .ok (.invokestatic 86, 3) := by decide +kernel
theorem dL_law_72 : decode cL_law 72 = .ok (.istore 4, 2) := by decide +kernel
theorem dL_law_74 : decode cL_law 74 = .ok (.aload_n 0, 1) := by decide +kernel
theorem dL_law_75 : decode cL_law 75 = .ok (.iconst 2, 1) := by decide +kernel
theorem dL_law_76 : decode cL_law 76 = .ok (.iload_n 3, 1) := by decide +kernel
theorem dL_law_77 : decode cL_law 77 = .ok (.imul, 1) := by decide +kernel
theorem dL_law_78 : decode cL_law 78 = .ok (.iconst 1, 1) := by decide +kernel
theorem dL_law_79 : decode cL_law 79 = .ok (.iadd, 1) := by decide +kernel
theorem dL_law_80 : decode cL_law 80 = .ok (.invokestatic 86, 3) := by decide +kernel
theorem dL_law_83 : decode cL_law 83 = .ok (.istore 5, 2) := by decide +kernel
theorem dL_law_85 : decode cL_law 85 = .ok (.aload_n 1, 1) := by decide +kernel
theorem dL_law_86 : decode cL_law 86 = .ok (.bipush 17, 2) := by decide +kernel
theorem dL_law_88 : decode cL_law 88 = .ok (.invokevirtual 12, 3) := by decide +kernel
theorem dL_law_91 : decode cL_law 91 = .ok (.iconst 5, 1) := by decide +kernel
theorem dL_law_92 : decode cL_law 92 = .ok (.if_icmp .lt 13, 3) := by decide +kernel
theorem dL_law_95 : decode cL_law 95 = .ok (.aload_n 1, 1) := by decide +kernel
theorem dL_law_96 : decode cL_law 96 = .ok (.invokevirtual 69, 3) := by decide +kernel
theorem dL_law_99 : decode cL_law 99 = .ok (.pop, 1) := by decide +kernel
theorem dL_law_100 : decode cL_law 100 = .ok (.aload_n 1, 1) := by decide +kernel
theorem dL_law_101 : decode cL_law 101 = .ok (.invokevirtual 69, 3) := by decide +kernel
theorem dL_law_104 : decode cL_law 104 = .ok (.pop, 1) := by decide +kernel
theorem dL_law_105 : decode cL_law 105 = .ok (.aload_n 1, 1) := by decide +kernel
theorem dL_law_106 : decode cL_law 106 = .ok (.bipush 17, 2) := by decide +kernel
theorem dL_law_108 : decode cL_law 108 = .ok (.invokevirtual 12, 3) := by decide +kernel
theorem dL_law_111 : decode cL_law 111 = .ok (.istore 6, 2) := by decide +kernel
theorem dL_law_113 : decode cL_law 113 = .ok (.aload_n 1, 1) := by decide +kernel
theorem dL_law_114 : decode cL_law 114 = .ok (.invokestatic 65, 3) := by decide +kernel
theorem dL_law_117 : decode cL_law 117 = .ok (.lstore 7, 2) := by decide +kernel
theorem dL_law_119 : decode cL_law 119 = .ok (.aload_n 1, 1) := by decide +kernel
theorem dL_law_120 : decode cL_law 120 = .ok (.iload 4, 2) := by decide +kernel
theorem dL_law_122 : decode cL_law 122 = .ok (.iload 5, 2) := by decide +kernel
theorem dL_law_124 : decode cL_law 124 = .ok (.invokestatic 90, 3) := by decide +kernel
theorem dL_law_127 : decode cL_law 127 = .ok (.istore 9, 2) := by decide +kernel
theorem dL_law_129 : decode cL_law 129 = .ok (.aload_n 1, 1) := by decide +kernel
theorem dL_law_130 : decode cL_law 130 = .ok (.invokestatic 65, 3) := by decide +kernel
theorem dL_law_133 : decode cL_law 133 = .ok (.lstore 10, 2) := by decide +kernel
theorem dL_law_135 : decode cL_law 135 = .ok (.iload 9, 2) := by decide +kernel
theorem dL_law_137 : decode cL_law 137 = .ok (.bipush (-9), 2) := by decide +kernel
theorem dL_law_139 : decode cL_law 139 = .ok (.if_icmp .ne 25, 3) := by decide +kernel
theorem dL_law_142 : decode cL_law 142 = .ok (.lload 10, 2) := by decide +kernel
theorem dL_law_144 : decode cL_law 144 = .ok (.lload 7, 2) := by decide +kernel
theorem dL_law_146 : decode cL_law 146 = .ok (.lcmp, 1) := by decide +kernel
theorem dL_law_147 : decode cL_law 147 = .ok (.ifCond .ne 30, 3) := by decide +kernel
theorem dL_law_150 : decode cL_law 150 = .ok (.aload_n 1, 1) := by decide +kernel
theorem dL_law_151 : decode cL_law 151 = .ok (.bipush 17, 2) := by decide +kernel
theorem dL_law_153 : decode cL_law 153 = .ok (.invokevirtual 12, 3) := by decide +kernel
theorem dL_law_156 : decode cL_law 156 = .ok (.iload 6, 2) := by decide +kernel
theorem dL_law_158 : decode cL_law 158 = .ok (.if_icmp .eq 21, 3) := by decide +kernel
theorem dL_law_161 : decode cL_law 161 = .ok (.goto 16, 3) := by decide +kernel
theorem dL_law_164 : decode cL_law 164 = .ok (.aload_n 1, 1) := by decide +kernel
theorem dL_law_165 : decode cL_law 165 = .ok (.bipush 17, 2) := by decide +kernel
theorem dL_law_167 : decode cL_law 167 = .ok (.invokevirtual 12, 3) := by decide +kernel
theorem dL_law_170 : decode cL_law 170 = .ok (.iload 6, 2) := by decide +kernel
theorem dL_law_172 : decode cL_law 172 = .ok (.iconst 1, 1) := by decide +kernel
theorem dL_law_173 : decode cL_law 173 = .ok (.iadd, 1) := by decide +kernel
theorem dL_law_174 : decode cL_law 174 = .ok (.if_icmp .eq 5, 3) := by decide +kernel
theorem dL_law_177 : decode cL_law 177 = .ok (.iconst 0, 1) := by decide +kernel
theorem dL_law_178 : decode cL_law 178 = .ok (.ireturn, 1) := by decide +kernel
theorem dL_law_179 : decode cL_law 179 = .ok (.iload 9, 2) := by decide +kernel
theorem dL_law_181 : decode cL_law 181 = .ok (.bipush (-9), 2) := by decide +kernel
theorem dL_law_183 : decode cL_law 183 = .ok (.if_icmp .eq 57, 3) := by decide +kernel
theorem dL_law_186 : decode cL_law 186 = .ok (.iload 4, 2) := by decide +kernel
theorem dL_law_188 : decode cL_law 188 = .ok (.bipush 10, 2) := by decide +kernel
theorem dL_law_190 : decode cL_law 190 = .ok (.ishr, 1) := by decide +kernel
theorem dL_law_191 : decode cL_law 191 = .ok (.iconst 1, 1) := by decide +kernel
theorem dL_law_192 : decode cL_law 192 = .ok (.iand, 1) := by decide +kernel
theorem dL_law_193 : decode cL_law 193 = .ok (.ifCond .ne 47, 3) := by decide +kernel
theorem dL_law_196 : decode cL_law 196 = .ok (.aload_n 1, 1) := by decide +kernel
theorem dL_law_197 : decode cL_law 197 = .ok (.invokevirtual 69, 3) := by decide +kernel
theorem dL_law_200 : decode cL_law 200 = .ok (.iload 6, 2) := by decide +kernel
theorem dL_law_202 : decode cL_law 202 = .ok (.if_icmp .ne 36, 3) := by decide +kernel
theorem dL_law_205 : decode cL_law 205 = .ok (.aload_n 1, 1) := by decide +kernel
theorem dL_law_206 : decode cL_law 206 = .ok (.invokestatic 65, 3) := by decide +kernel
theorem dL_law_209 : decode cL_law 209 = .ok (.lload 7, 2) := by decide +kernel
theorem dL_law_211 : decode cL_law 211 = .ok (.lcmp, 1) := by decide +kernel
theorem dL_law_212 : decode cL_law 212 = .ok (.ifCond .ne 26, 3) := by decide +kernel
theorem dL_law_215 : decode cL_law 215 = .ok (.aload_n 1, 1) := by decide +kernel
theorem dL_law_216 : decode cL_law 216 = .ok (.iload 4, 2) := by decide +kernel
theorem dL_law_218 : decode cL_law 218 = .ok (.iload 5, 2) := by decide +kernel
theorem dL_law_220 : decode cL_law 220 = .ok (.invokestatic 90, 3) := by decide +kernel
theorem dL_law_223 : decode cL_law 223 = .ok (.iload 9, 2) := by decide +kernel
theorem dL_law_225 : decode cL_law 225 = .ok (.if_icmp .ne 13, 3) := by decide +kernel
theorem dL_law_228 : decode cL_law 228 = .ok (.aload_n 1, 1) := by decide +kernel
theorem dL_law_229 : decode cL_law 229 = .ok (.invokestatic 65, 3) := by decide +kernel
theorem dL_law_232 : decode cL_law 232 = .ok (.lload 10, 2) := by decide +kernel
theorem dL_law_234 : decode cL_law 234 = .ok (.lcmp, 1) := by decide +kernel
theorem dL_law_235 : decode cL_law 235 = .ok (.ifCond .eq 5, 3) := by decide +kernel
theorem dL_law_238 : decode cL_law 238 = .ok (.iconst 0, 1) := by decide +kernel
theorem dL_law_239 : decode cL_law 239 = .ok (.ireturn, 1) := by decide +kernel
theorem dL_law_240 : decode cL_law 240 = .ok (.aload_n 1, 1) := by decide +kernel
theorem dL_law_241 : decode cL_law 241 = .ok (.aload_n 2, 1) := by decide +kernel
theorem dL_law_242 : decode cL_law 242 = .ok (.invokestatic 94, 3) := by decide +kernel
theorem dL_law_245 : decode cL_law 245 = .ok (.ifCond .eq 19, 3) := by decide +kernel
theorem dL_law_248 : decode cL_law 248 = .ok (.aload_n 1, 1) := by decide +kernel
theorem dL_law_249 : decode cL_law 249 = .ok (.iload 5, 2) := by decide +kernel
theorem dL_law_251 : decode cL_law 251 = .ok (.iconst 2, 1) := by decide +kernel
theorem dL_law_252 : decode cL_law 252 = .ok (.ishr, 1) := by decide +kernel
theorem dL_law_253 : decode cL_law 253 = .ok (.bipush 12, 2) := by decide +kernel
theorem dL_law_255 : decode cL_law 255 = .ok (.invokestatic 28, 3) := by decide +kernel
theorem dL_law_258 : decode cL_law 258 = .ok (.invokestatic 98, 3) := by decide +kernel
theorem dL_law_261 : decode cL_law 261 = .ok (.ifCond .ne 5, 3) := by decide +kernel
theorem dL_law_264 : decode cL_law 264 = .ok (.iconst 0, 1) := by decide +kernel
theorem dL_law_265 : decode cL_law 265 = .ok (.ireturn, 1) := by decide +kernel
theorem dL_law_266 : decode cL_law 266 = .ok (.iinc 3 1, 3) := by decide +kernel
theorem dL_law_269 : decode cL_law 269 = .ok (.goto (-220), 3) := by decide +kernel
theorem dL_law_272 : decode cL_law 272 = .ok (.iconst 1, 1) := by decide +kernel
theorem dL_law_273 : decode cL_law 273 = .ok (.ireturn, 1) := by decide +kernel
