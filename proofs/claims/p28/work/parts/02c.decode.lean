theorem dL_cell_0 : decode cL_cell 0 = .ok (.iload_n 1, 1) := by decide +kernel
theorem dL_cell_1 : decode cL_cell 1 = .ok (.aload_n 0, 1) := by decide +kernel
theorem dL_cell_2 : decode cL_cell 2 = .ok (.arraylength, 1) := by decide +kernel
theorem dL_cell_3 : decode cL_cell 3 = .ok (.if_icmp .ge 9, 3) := by decide +kernel
theorem dL_cell_6 : decode cL_cell 6 = .ok (.aload_n 0, 1) := by decide +kernel
theorem dL_cell_7 : decode cL_cell 7 = .ok (.iload_n 1, 1) := by decide +kernel
theorem dL_cell_8 : decode cL_cell 8 = .ok (.iaload, 1) := by decide +kernel
theorem dL_cell_9 : decode cL_cell 9 = .ok (.goto 17, 3) := by decide +kernel
theorem dL_cell_12 : decode cL_cell 12 = .ok (.sipush 7919, 3) := by decide +kernel
theorem dL_cell_15 : decode cL_cell 15 = .ok (.iload_n 1, 1) := by decide +kernel
theorem dL_cell_16 : decode cL_cell 16 = .ok (.bipush 7, 2) := by decide +kernel
theorem dL_cell_18 : decode cL_cell 18 = .ok (.iadd, 1) := by decide +kernel
theorem dL_cell_19 : decode cL_cell 19 = .ok (.imul, 1) := by decide +kernel
theorem dL_cell_20 : decode cL_cell 20 = .ok (.iload_n 1, 1) := by decide +kernel
theorem dL_cell_21 : decode cL_cell 21 = .ok (.sipush 331, 3) := by decide +kernel
theorem dL_cell_24 : decode cL_cell 24 = .ok (.iadd, 1) := by decide +kernel
theorem dL_cell_25 : decode cL_cell 25 = .ok (.imul, 1) := by decide +kernel
theorem dL_cell_26 : decode cL_cell 26 = .ok (.ireturn, 1) := by decide +kernel
theorem dL_low_0 : decode cL_low 0 = .ok (.iload_n 0, 1) := by decide +kernel
theorem dL_low_1 : decode cL_low 1 = .ok (.ldc 7, 2) := by decide +kernel
theorem dL_low_3 : decode cL_low 3 = .ok (.iand, 1) := by decide +kernel
theorem dL_low_4 : decode cL_low 4 = .ok (.iload_n 1, 1) := by decide +kernel
theorem dL_low_5 : decode cL_low 5 = .ok (.irem, 1) := by decide +kernel
theorem dL_low_6 : decode cL_low 6 = .ok (.ireturn, 1) := by decide +kernel
theorem dL_act_0 : decode cL_act 0 = .ok (.iload_n 1, 1) := by decide +kernel
theorem dL_act_1 : decode cL_act 1 = .ok (.iconst 5, 1) := by decide +kernel
theorem dL_act_2 : decode cL_act 2 = .ok (.ishr, 1) := by decide +kernel
theorem dL_act_3 : decode cL_act 3 = .ok (.istore_n 2, 1) := by decide +kernel
theorem dL_act_4 : decode cL_act 4 = .ok (.iload_n 1, 1) := by decide +kernel
theorem dL_act_5 : decode cL_act 5 = .ok (.bipush 22, 2) := by decide +kernel
theorem dL_act_7 : decode cL_act 7 = .ok (.ishr, 1) := by decide +kernel
theorem dL_act_8 : decode cL_act 8 = .ok (.bipush 7, 2) := by decide +kernel
theorem dL_act_10 : decode cL_act 10 = .ok (.invokestatic 8, 3) := by decide +kernel
theorem dL_act_13 : decode cL_act 13 = .ok (.ifCond .le 7, 3) := by decide +kernel
theorem dL_act_16 : decode cL_act 16 = .ok (.iconst 1, 1) := by decide +kernel
theorem dL_act_17 : decode cL_act 17 = .ok (.goto 4, 3) := by decide +kernel
theorem dL_act_20 : decode cL_act 20 = .ok (.iconst 0, 1) := by decide +kernel
theorem dL_act_21 : decode cL_act 21 = .ok (.istore_n 3, 1) := by decide +kernel
theorem dL_act_22 : decode cL_act 22 = .ok (.iload_n 1, 1) := by decide +kernel
theorem dL_act_23 : decode cL_act 23 = .ok (.bipush 32, 2) := by decide +kernel
theorem dL_act_25 : decode cL_act 25 = .ok (.invokestatic 8, 3) := by decide +kernel
theorem dL_act_28 : decode cL_act 28 = .ok (.istore 4, 2) := by decide +kernel
theorem dL_act_30 : decode cL_act 30 = .ok (.iload 4, 2) := by decide +kernel
theorem dL_act_32 : decode cL_act 32 = .ok (.bipush 18, 2) := by decide +kernel
theorem dL_act_34 : decode cL_act 34 = .ok (.if_icmp .ge 84, 3) := by decide +kernel
theorem dL_act_37 : decode cL_act 37 = .ok (.aload_n 0, 1) := by decide +kernel
theorem dL_act_38 : decode cL_act 38 = .ok (.iload_n 2, 1) := by decide +kernel
theorem dL_act_39 : decode cL_act 39 = .ok (.iload_n 3, 1) := by decide +kernel
theorem dL_act_40 : decode cL_act 40 = .ok (.ifCond .eq 8, 3) := by decide +kernel
theorem dL_act_43 : decode cL_act 43 = .ok (.bipush 8, 2) := by decide +kernel
theorem dL_act_45 : decode cL_act 45 = .ok (.goto 5, 3) := by decide +kernel
theorem dL_act_48 : decode cL_act 48 = .ok (.bipush 15, 2) := by decide +kernel
theorem dL_act_50 : decode cL_act 50 = .ok (.invokestatic 8, 3) := by decide +kernel
theorem dL_act_53 : decode cL_act 53 = .ok (.iload_n 2, 1) := by decide +kernel
theorem dL_act_54 : decode cL_act 54 = .ok (.iconst 3, 1) := by decide +kernel
theorem dL_act_55 : decode cL_act 55 = .ok (.ishr, 1) := by decide +kernel
theorem dL_act_56 : decode cL_act 56 = .ok (.iload_n 3, 1) := by decide +kernel
theorem dL_act_57 : decode cL_act 57 = .ok (.ifCond .eq 8, 3) := by decide +kernel
theorem dL_act_60 : decode cL_act 60 = .ok (.bipush 8, 2) := by decide +kernel
theorem dL_act_62 : decode cL_act 62 = .ok (.goto 5, 3) := by decide +kernel
theorem dL_act_65 : decode cL_act 65 = .ok (.bipush 15, 2) := by decide +kernel
theorem dL_act_67 : decode cL_act 67 = .ok (.invokestatic 8, 3) := by decide +kernel
theorem dL_act_70 : decode cL_act 70 = .ok (.iload_n 2, 1) := by decide +kernel
theorem dL_act_71 : decode cL_act 71 = .ok (.bipush 6, 2) := by decide +kernel
theorem dL_act_73 : decode cL_act 73 = .ok (.ishr, 1) := by decide +kernel
theorem dL_act_74 : decode cL_act 74 = .ok (.iload_n 3, 1) := by decide +kernel
theorem dL_act_75 : decode cL_act 75 = .ok (.ifCond .eq 8, 3) := by decide +kernel
theorem dL_act_78 : decode cL_act 78 = .ok (.bipush 20, 2) := by decide +kernel
theorem dL_act_80 : decode cL_act 80 = .ok (.goto 5, 3) := by decide +kernel
theorem dL_act_83 : decode cL_act 83 = .ok (.bipush 24, 2) := by decide +kernel
theorem dL_act_85 : decode cL_act 85 = .ok (.invokestatic 8, 3) := by decide +kernel
theorem dL_act_88 : decode cL_act 88 = .ok (.iload_n 3, 1) := by decide +kernel
theorem dL_act_89 : decode cL_act 89 = .ok (.ifCond .eq 7, 3) := by decide +kernel
theorem dL_act_92 : decode cL_act 92 = .ok (.iconst 1, 1) := by decide +kernel
theorem dL_act_93 : decode cL_act 93 = .ok (.goto 4, 3) := by decide +kernel
theorem dL_act_96 : decode cL_act 96 = .ok (.iconst 0, 1) := by decide +kernel
theorem dL_act_97 : decode cL_act 97 = .ok (.iadd, 1) := by decide +kernel
theorem dL_act_98 : decode cL_act 98 = .ok (.iload_n 2, 1) := by decide +kernel
theorem dL_act_99 : decode cL_act 99 = .ok (.bipush 9, 2) := by decide +kernel
theorem dL_act_101 : decode cL_act 101 = .ok (.ishr, 1) := by decide +kernel
theorem dL_act_102 : decode cL_act 102 = .ok (.iload_n 3, 1) := by decide +kernel
theorem dL_act_103 : decode cL_act 103 = .ok (.ifCond .eq 7, 3) := by decide +kernel
theorem dL_act_106 : decode cL_act 106 = .ok (.iconst 4, 1) := by decide +kernel
theorem dL_act_107 : decode cL_act 107 = .ok (.goto 4, 3) := by decide +kernel
theorem dL_act_110 : decode cL_act 110 = .ok (.iconst 5, 1) := by decide +kernel
theorem dL_act_111 : decode cL_act 111 = .ok (.invokestatic 8, 3) := by decide +kernel
theorem dL_act_114 : decode cL_act 114 = .ok (.invokevirtual 14, 3) := by decide +kernel
theorem dL_act_117 : decode cL_act 117 = .ok (.ireturn, 1) := by decide +kernel
theorem dL_act_118 : decode cL_act 118 = .ok (.iload 4, 2) := by decide +kernel
theorem dL_act_120 : decode cL_act 120 = .ok (.bipush 22, 2) := by decide +kernel
theorem dL_act_122 : decode cL_act 122 = .ok (.if_icmp .ge 56, 3) := by decide +kernel
theorem dL_act_125 : decode cL_act 125 = .ok (.aload_n 0, 1) := by decide +kernel
theorem dL_act_126 : decode cL_act 126 = .ok (.iload_n 2, 1) := by decide +kernel
theorem dL_act_127 : decode cL_act 127 = .ok (.iload_n 3, 1) := by decide +kernel
theorem dL_act_128 : decode cL_act 128 = .ok (.ifCond .eq 8, 3) := by decide +kernel
theorem dL_act_131 : decode cL_act 131 = .ok (.bipush 8, 2) := by decide +kernel
theorem dL_act_133 : decode cL_act 133 = .ok (.goto 5, 3) := by decide +kernel
theorem dL_act_136 : decode cL_act 136 = .ok (.bipush 15, 2) := by decide +kernel
theorem dL_act_138 : decode cL_act 138 = .ok (.invokestatic 8, 3) := by decide +kernel
theorem dL_act_141 : decode cL_act 141 = .ok (.iload_n 2, 1) := by decide +kernel
theorem dL_act_142 : decode cL_act 142 = .ok (.iconst 4, 1) := by decide +kernel
theorem dL_act_143 : decode cL_act 143 = .ok (.ishr, 1) := by decide +kernel
theorem dL_act_144 : decode cL_act 144 = .ok (.iload_n 3, 1) := by decide +kernel
theorem dL_act_145 : decode cL_act 145 = .ok (.ifCond .eq 8, 3) := by decide +kernel
theorem dL_act_148 : decode cL_act 148 = .ok (.bipush 21, 2) := by decide +kernel
theorem dL_act_150 : decode cL_act 150 = .ok (.goto 5, 3) := by decide +kernel
theorem dL_act_153 : decode cL_act 153 = .ok (.bipush 24, 2) := by decide +kernel
theorem dL_act_155 : decode cL_act 155 = .ok (.invokestatic 8, 3) := by decide +kernel
theorem dL_act_158 : decode cL_act 158 = .ok (.iload_n 2, 1) := by decide +kernel
theorem dL_act_159 : decode cL_act 159 = .ok (.bipush 7, 2) := by decide +kernel
theorem dL_act_161 : decode cL_act 161 = .ok (.ishr, 1) := by decide +kernel
theorem dL_act_162 : decode cL_act 162 = .ok (.iload_n 3, 1) := by decide +kernel
theorem dL_act_163 : decode cL_act 163 = .ok (.ifCond .eq 7, 3) := by decide +kernel
theorem dL_act_166 : decode cL_act 166 = .ok (.iconst 4, 1) := by decide +kernel
theorem dL_act_167 : decode cL_act 167 = .ok (.goto 4, 3) := by decide +kernel
theorem dL_act_170 : decode cL_act 170 = .ok (.iconst 5, 1) := by decide +kernel
theorem dL_act_171 : decode cL_act 171 = .ok (.invokestatic 8, 3) := by decide +kernel
theorem dL_act_174 : decode cL_act 174 = .ok (.invokevirtual 20, 3) := by decide +kernel
theorem dL_act_177 : decode cL_act 177 = .ok (.ireturn, 1) := by decide +kernel
theorem dL_act_178 : decode cL_act 178 = .ok (.iload 4, 2) := by decide +kernel
theorem dL_act_180 : decode cL_act 180 = .ok (.bipush 27, 2) := by decide +kernel
theorem dL_act_182 : decode cL_act 182 = .ok (.if_icmp .ge 49, 3) := by decide +kernel
theorem dL_act_185 : decode cL_act 185 = .ok (.aload_n 0, 1) := by decide +kernel
theorem dL_act_186 : decode cL_act 186 = .ok (.iload_n 2, 1) := by decide +kernel
theorem dL_act_187 : decode cL_act 187 = .ok (.aload_n 0, 1) := by decide +kernel
theorem dL_act_188 : decode cL_act 188 = .ok (.iconst 0, 1) := by decide +kernel
theorem dL_act_189 : decode cL_act 189 = .ok (.invokevirtual 24, 3) := by decide +kernel
theorem dL_act_192 : decode cL_act 192 = .ok (.iload_n 3, 1) := by decide +kernel
theorem dL_act_193 : decode cL_act 193 = .ok (.ifCond .eq 15, 3) := by decide +kernel
theorem dL_act_196 : decode cL_act 196 = .ok (.aload_n 0, 1) := by decide +kernel
theorem dL_act_197 : decode cL_act 197 = .ok (.iconst 0, 1) := by decide +kernel
theorem dL_act_198 : decode cL_act 198 = .ok (.invokevirtual 24, 3) := by decide +kernel
theorem dL_act_201 : decode cL_act 201 = .ok (.ifCond .le 7, 3) := by decide +kernel
theorem dL_act_204 : decode cL_act 204 = .ok (.iconst 0, 1) := by decide +kernel
theorem dL_act_205 : decode cL_act 205 = .ok (.goto 4, 3) := by decide +kernel
theorem dL_act_208 : decode cL_act 208 = .ok (.iconst 1, 1) := by decide +kernel
theorem dL_act_209 : decode cL_act 209 = .ok (.iadd, 1) := by decide +kernel
theorem dL_act_210 : decode cL_act 210 = .ok (.invokestatic 8, 3) := by decide +kernel
theorem dL_act_213 : decode cL_act 213 = .ok (.iload_n 2, 1) := by decide +kernel
theorem dL_act_214 : decode cL_act 214 = .ok (.bipush 6, 2) := by decide +kernel
theorem dL_act_216 : decode cL_act 216 = .ok (.ishr, 1) := by decide +kernel
theorem dL_act_217 : decode cL_act 217 = .ok (.iconst 1, 1) := by decide +kernel
theorem dL_act_218 : decode cL_act 218 = .ok (.iand, 1) := by decide +kernel
theorem dL_act_219 : decode cL_act 219 = .ok (.ifCond .ne 7, 3) := by decide +kernel
theorem dL_act_222 : decode cL_act 222 = .ok (.iconst 1, 1) := by decide +kernel
theorem dL_act_223 : decode cL_act 223 = .ok (.goto 4, 3) := by decide +kernel
theorem dL_act_226 : decode cL_act 226 = .ok (.iconst 0, 1) := by decide +kernel
theorem dL_act_227 : decode cL_act 227 = .ok (.invokevirtual 28, 3) := by decide +kernel
theorem dL_act_230 : decode cL_act 230 = .ok (.ireturn, 1) := by decide +kernel
theorem dL_act_231 : decode cL_act 231 = .ok (.iload 4, 2) := by decide +kernel
theorem dL_act_233 : decode cL_act 233 = .ok (.bipush 29, 2) := by decide +kernel
theorem dL_act_235 : decode cL_act 235 = .ok (.if_icmp .ge 44, 3) := by decide +kernel
theorem dL_act_238 : decode cL_act 238 = .ok (.iload 4, 2) := by decide +kernel
theorem dL_act_240 : decode cL_act 240 = .ok (.bipush 27, 2) := by decide +kernel
theorem dL_act_242 : decode cL_act 242 = .ok (.if_icmp .ne 21, 3) := by decide +kernel
theorem dL_act_245 : decode cL_act 245 = .ok (.aload_n 0, 1) := by decide +kernel
theorem dL_act_246 : decode cL_act 246 = .ok (.iload_n 2, 1) := by decide +kernel
theorem dL_act_247 : decode cL_act 247 = .ok (.aload_n 0, 1) := by decide +kernel
theorem dL_act_248 : decode cL_act 248 = .ok (.iconst 0, 1) := by decide +kernel
theorem dL_act_249 : decode cL_act 249 = .ok (.invokevirtual 24, 3) := by decide +kernel
theorem dL_act_252 : decode cL_act 252 = .ok (.iconst 1, 1) := by decide +kernel
theorem dL_act_253 : decode cL_act 253 = .ok (.iadd, 1) := by decide +kernel
theorem dL_act_254 : decode cL_act 254 = .ok (.invokestatic 8, 3) := by decide +kernel
theorem dL_act_257 : decode cL_act 257 = .ok (.invokevirtual 32, 3) := by decide +kernel
theorem dL_act_260 : decode cL_act 260 = .ok (.goto 18, 3) := by decide +kernel
theorem dL_act_263 : decode cL_act 263 = .ok (.aload_n 0, 1) := by decide +kernel
theorem dL_act_264 : decode cL_act 264 = .ok (.iload_n 2, 1) := by decide +kernel
theorem dL_act_265 : decode cL_act 265 = .ok (.aload_n 0, 1) := by decide +kernel
theorem dL_act_266 : decode cL_act 266 = .ok (.iconst 2, 1) := by decide +kernel
theorem dL_act_267 : decode cL_act 267 = .ok (.invokevirtual 24, 3) := by decide +kernel
theorem dL_act_270 : decode cL_act 270 = .ok (.iconst 1, 1) := by decide +kernel
theorem dL_act_271 : decode cL_act 271 = .ok (.iadd, 1) := by decide +kernel
theorem dL_act_272 : decode cL_act 272 = .ok (.invokestatic 8, 3) := by decide +kernel
theorem dL_act_275 : decode cL_act 275 = .ok (.invokevirtual 35, 3) := by decide +kernel
theorem dL_act_278 : decode cL_act 278 = .ok (.ireturn, 1) := by decide +kernel
theorem dL_act_279 : decode cL_act 279 = .ok (.aload_n 0, 1) := by decide +kernel
theorem dL_act_280 : decode cL_act 280 = .ok (.iload_n 2, 1) := by decide +kernel
theorem dL_act_281 : decode cL_act 281 = .ok (.iload_n 3, 1) := by decide +kernel
theorem dL_act_282 : decode cL_act 282 = .ok (.ifCond .eq 8, 3) := by decide +kernel
theorem dL_act_285 : decode cL_act 285 = .ok (.bipush 8, 2) := by decide +kernel
theorem dL_act_287 : decode cL_act 287 = .ok (.goto 5, 3) := by decide +kernel
theorem dL_act_290 : decode cL_act 290 = .ok (.bipush 15, 2) := by decide +kernel
theorem dL_act_292 : decode cL_act 292 = .ok (.invokestatic 8, 3) := by decide +kernel
theorem dL_act_295 : decode cL_act 295 = .ok (.iload_n 2, 1) := by decide +kernel
theorem dL_act_296 : decode cL_act 296 = .ok (.iconst 4, 1) := by decide +kernel
theorem dL_act_297 : decode cL_act 297 = .ok (.ishr, 1) := by decide +kernel
theorem dL_act_298 : decode cL_act 298 = .ok (.iload_n 3, 1) := by decide +kernel
theorem dL_act_299 : decode cL_act 299 = .ok (.ifCond .eq 7, 3) := by decide +kernel
theorem dL_act_302 : decode cL_act 302 = .ok (.iconst 3, 1) := by decide +kernel
theorem dL_act_303 : decode cL_act 303 = .ok (.goto 5, 3) := by decide +kernel
theorem dL_act_306 : decode cL_act 306 = .ok (.bipush 12, 2) := by decide +kernel
theorem dL_act_308 : decode cL_act 308 = .ok (.invokestatic 8, 3) := by decide +kernel
theorem dL_act_311 : decode cL_act 311 = .ok (.invokevirtual 38, 3) := by decide +kernel
theorem dL_act_314 : decode cL_act 314 = .ok (.ireturn, 1) := by decide +kernel
theorem dL_areAlike_0 : decode cL_areAlike 0 = .ok (.aload_n 0, 1) := by decide +kernel
theorem dL_areAlike_1 : decode cL_areAlike 1 = .ok (.iconst 0, 1) := by decide +kernel
theorem dL_areAlike_2 : decode cL_areAlike 2 = .ok (.invokevirtual 24, 3) := by decide +kernel
theorem dL_areAlike_5 : decode cL_areAlike 5 = .ok (.aload_n 1, 1) := by decide +kernel
theorem dL_areAlike_6 : decode cL_areAlike 6 = .ok (.iconst 0, 1) := by decide +kernel
theorem dL_areAlike_7 : decode cL_areAlike 7 = .ok (.invokevirtual 24, 3) := by decide +kernel
theorem dL_areAlike_10 : decode cL_areAlike 10 = .ok (.if_icmp .ne 33, 3) := by decide +kernel
theorem dL_areAlike_13 : decode cL_areAlike 13 = .ok (.aload_n 0, 1) := by decide +kernel
theorem dL_areAlike_14 : decode cL_areAlike 14 = .ok (.iconst 1, 1) := by decide +kernel
theorem dL_areAlike_15 : decode cL_areAlike 15 = .ok (.invokevirtual 24, 3) := by decide +kernel
theorem dL_areAlike_18 : decode cL_areAlike 18 = .ok (.aload_n 1, 1) := by decide +kernel
theorem dL_areAlike_19 : decode cL_areAlike 19 = .ok (.iconst 1, 1) := by decide +kernel
theorem dL_areAlike_20 : decode cL_areAlike 20 = .ok (.invokevirtual 24, 3) := by decide +kernel
theorem dL_areAlike_23 : decode cL_areAlike 23 = .ok (.if_icmp .ne 20, 3) := by decide +kernel
theorem dL_areAlike_26 : decode cL_areAlike 26 = .ok (.aload_n 0, 1) := by decide +kernel
theorem dL_areAlike_27 : decode cL_areAlike 27 = .ok (.iconst 2, 1) := by decide +kernel
theorem dL_areAlike_28 : decode cL_areAlike 28 = .ok (.invokevirtual 24, 3) := by decide +kernel
theorem dL_areAlike_31 : decode cL_areAlike 31 = .ok (.aload_n 1, 1) := by decide +kernel
theorem dL_areAlike_32 : decode cL_areAlike 32 = .ok (.iconst 2, 1) := by decide +kernel
theorem dL_areAlike_33 : decode cL_areAlike 33 = .ok (.invokevirtual 24, 3) := by decide +kernel
theorem dL_areAlike_36 : decode cL_areAlike 36 = .ok (.if_icmp .ne 7, 3) := by decide +kernel
theorem dL_areAlike_39 : decode cL_areAlike 39 = .ok (.iconst 1, 1) := by decide +kernel
theorem dL_areAlike_40 : decode cL_areAlike 40 = .ok (.goto 4, 3) := by decide +kernel
theorem dL_areAlike_43 : decode cL_areAlike 43 = .ok (.iconst 0, 1) := by decide +kernel
theorem dL_areAlike_44 : decode cL_areAlike 44 = .ok (.istore_n 2, 1) := by decide +kernel
theorem dL_areAlike_45 : decode cL_areAlike 45 = .ok (.iconst 0, 1) := by decide +kernel
theorem dL_areAlike_46 : decode cL_areAlike 46 = .ok (.istore_n 3, 1) := by decide +kernel
theorem dL_areAlike_47 : decode cL_areAlike 47 = .ok (.iload_n 3, 1) := by decide +kernel
theorem dL_areAlike_48 : decode cL_areAlike 48 = .ok (.bipush 56, 2) := by decide +kernel
theorem dL_areAlike_50 : decode cL_areAlike 50 = .ok (.if_icmp .ge 42, 3) := by decide +kernel
theorem dL_areAlike_53 : decode cL_areAlike 53 = .ok (.iload_n 2, 1) := by decide +kernel
theorem dL_areAlike_54 : decode cL_areAlike 54 = .ok (.ifCond .eq 30, 3) := by decide +kernel
theorem dL_areAlike_57 : decode cL_areAlike 57 = .ok (.aload_n 0, 1) := by decide +kernel
theorem dL_areAlike_58 : decode cL_areAlike 58 = .ok (.iload_n 3, 1) := by decide +kernel
theorem dL_areAlike_59 : decode cL_areAlike 59 = .ok (.iconst 4, 1) := by decide +kernel
theorem dL_areAlike_60 : decode cL_areAlike 60 = .ok (.idiv, 1) := by decide +kernel
theorem dL_areAlike_61 : decode cL_areAlike 61 = .ok (.iload_n 3, 1) := by decide +kernel
theorem dL_areAlike_62 : decode cL_areAlike 62 = .ok (.iconst 4, 1) := by decide +kernel
theorem dL_areAlike_63 : decode cL_areAlike 63 = .ok (.irem, 1) := by decide +kernel
theorem dL_areAlike_64 : decode cL_areAlike 64 = .ok (.invokevirtual 41, 3) := by decide +kernel
theorem dL_areAlike_67 : decode cL_areAlike 67 = .ok (.aload_n 1, 1) := by decide +kernel
theorem dL_areAlike_68 : decode cL_areAlike 68 = .ok (.iload_n 3, 1) := by decide +kernel
theorem dL_areAlike_69 : decode cL_areAlike 69 = .ok (.iconst 4, 1) := by decide +kernel
theorem dL_areAlike_70 : decode cL_areAlike 70 = .ok (.idiv, 1) := by decide +kernel
theorem dL_areAlike_71 : decode cL_areAlike 71 = .ok (.iload_n 3, 1) := by decide +kernel
theorem dL_areAlike_72 : decode cL_areAlike 72 = .ok (.iconst 4, 1) := by decide +kernel
theorem dL_areAlike_73 : decode cL_areAlike 73 = .ok (.irem, 1) := by decide +kernel
theorem dL_areAlike_74 : decode cL_areAlike 74 = .ok (.invokevirtual 41, 3) := by decide +kernel
theorem dL_areAlike_77 : decode cL_areAlike 77 = .ok (.if_icmp .ne 7, 3) := by decide +kernel
theorem dL_areAlike_80 : decode cL_areAlike 80 = .ok (.iconst 1, 1) := by decide +kernel
theorem dL_areAlike_81 : decode cL_areAlike 81 = .ok (.goto 4, 3) := by decide +kernel
theorem dL_areAlike_84 : decode cL_areAlike 84 = .ok (.iconst 0, 1) := by decide +kernel
theorem dL_areAlike_85 : decode cL_areAlike 85 = .ok (.istore_n 2, 1) := by decide +kernel
theorem dL_areAlike_86 : decode cL_areAlike 86 = .ok (.iinc 3 1, 3) := by decide +kernel
theorem dL_areAlike_89 : decode cL_areAlike 89 = .ok (.goto (-42), 3) := by decide +kernel
theorem dL_areAlike_92 : decode cL_areAlike 92 = .ok (.iconst 0, 1) := by decide +kernel
theorem dL_areAlike_93 : decode cL_areAlike 93 = .ok (.istore_n 3, 1) := by decide +kernel
theorem dL_areAlike_94 : decode cL_areAlike 94 = .ok (.iload_n 3, 1) := by decide +kernel
theorem dL_areAlike_95 : decode cL_areAlike 95 = .ok (.bipush 7, 2) := by decide +kernel
theorem dL_areAlike_97 : decode cL_areAlike 97 = .ok (.aload_n 0, 1) := by decide +kernel
theorem dL_areAlike_98 : decode cL_areAlike 98 = .ok (.iconst 0, 1) := by decide +kernel
theorem dL_areAlike_99 : decode cL_areAlike 99 = .ok (.invokevirtual 24, 3) := by decide +kernel
theorem dL_areAlike_102 : decode cL_areAlike 102 = .ok (.imul, 1) := by decide +kernel
theorem dL_areAlike_103 : decode cL_areAlike 103 = .ok (.if_icmp .ge 46, 3) := by decide +kernel
theorem dL_areAlike_106 : decode cL_areAlike 106 = .ok (.iload_n 2, 1) := by decide +kernel
theorem dL_areAlike_107 : decode cL_areAlike 107 = .ok (.ifCond .eq 34, 3) := by decide +kernel
theorem dL_areAlike_110 : decode cL_areAlike 110 = .ok (.aload_n 0, 1) := by decide +kernel
theorem dL_areAlike_111 : decode cL_areAlike 111 = .ok (.iload_n 3, 1) := by decide +kernel
theorem dL_areAlike_112 : decode cL_areAlike 112 = .ok (.bipush 7, 2) := by decide +kernel
theorem dL_areAlike_114 : decode cL_areAlike 114 = .ok (.idiv, 1) := by decide +kernel
theorem dL_areAlike_115 : decode cL_areAlike 115 = .ok (.iload_n 3, 1) := by decide +kernel
theorem dL_areAlike_116 : decode cL_areAlike 116 = .ok (.bipush 7, 2) := by decide +kernel
theorem dL_areAlike_118 : decode cL_areAlike 118 = .ok (.irem, 1) := by decide +kernel
theorem dL_areAlike_119 : decode cL_areAlike 119 = .ok (.invokevirtual 44, 3) := by decide +kernel
theorem dL_areAlike_122 : decode cL_areAlike 122 = .ok (.aload_n 1, 1) := by decide +kernel
theorem dL_areAlike_123 : decode cL_areAlike 123 = .ok (.iload_n 3, 1) := by decide +kernel
theorem dL_areAlike_124 : decode cL_areAlike 124 = .ok (.bipush 7, 2) := by decide +kernel
theorem dL_areAlike_126 : decode cL_areAlike 126 = .ok (.idiv, 1) := by decide +kernel
theorem dL_areAlike_127 : decode cL_areAlike 127 = .ok (.iload_n 3, 1) := by decide +kernel
theorem dL_areAlike_128 : decode cL_areAlike 128 = .ok (.bipush 7, 2) := by decide +kernel
theorem dL_areAlike_130 : decode cL_areAlike 130 = .ok (.irem, 1) := by decide +kernel
theorem dL_areAlike_131 : decode cL_areAlike 131 = .ok (.invokevirtual 44, 3) := by decide +kernel
theorem dL_areAlike_134 : decode cL_areAlike 134 = .ok (.if_icmp .ne 7, 3) := by decide +kernel
theorem dL_areAlike_137 : decode cL_areAlike 137 = .ok (.iconst 1, 1) := by decide +kernel
theorem dL_areAlike_138 : decode cL_areAlike 138 = .ok (.goto 4, 3) := by decide +kernel
theorem dL_areAlike_141 : decode cL_areAlike 141 = .ok (.iconst 0, 1) := by decide +kernel
theorem dL_areAlike_142 : decode cL_areAlike 142 = .ok (.istore_n 2, 1) := by decide +kernel
theorem dL_areAlike_143 : decode cL_areAlike 143 = .ok (.iinc 3 1, 3) := by decide +kernel
theorem dL_areAlike_146 : decode cL_areAlike 146 = .ok (.goto (-52), 3) := by decide +kernel
theorem dL_areAlike_149 : decode cL_areAlike 149 = .ok (.iconst 0, 1) := by decide +kernel
theorem dL_areAlike_150 : decode cL_areAlike 150 = .ok (.istore_n 3, 1) := by decide +kernel
theorem dL_areAlike_151 : decode cL_areAlike 151 = .ok (.iload_n 3, 1) := by decide +kernel
theorem dL_areAlike_152 : decode cL_areAlike 152 = .ok (.iconst 3, 1) := by decide +kernel
theorem dL_areAlike_153 : decode cL_areAlike 153 = .ok (.aload_n 0, 1) := by decide +kernel
theorem dL_areAlike_154 : decode cL_areAlike 154 = .ok (.iconst 2, 1) := by decide +kernel
theorem dL_areAlike_155 : decode cL_areAlike 155 = .ok (.invokevirtual 24, 3) := by decide +kernel
theorem dL_areAlike_158 : decode cL_areAlike 158 = .ok (.imul, 1) := by decide +kernel
theorem dL_areAlike_159 : decode cL_areAlike 159 = .ok (.if_icmp .ge 42, 3) := by decide +kernel
theorem dL_areAlike_162 : decode cL_areAlike 162 = .ok (.iload_n 2, 1) := by decide +kernel
theorem dL_areAlike_163 : decode cL_areAlike 163 = .ok (.ifCond .eq 30, 3) := by decide +kernel
theorem dL_areAlike_166 : decode cL_areAlike 166 = .ok (.aload_n 0, 1) := by decide +kernel
theorem dL_areAlike_167 : decode cL_areAlike 167 = .ok (.iload_n 3, 1) := by decide +kernel
theorem dL_areAlike_168 : decode cL_areAlike 168 = .ok (.iconst 3, 1) := by decide +kernel
theorem dL_areAlike_169 : decode cL_areAlike 169 = .ok (.idiv, 1) := by decide +kernel
theorem dL_areAlike_170 : decode cL_areAlike 170 = .ok (.iload_n 3, 1) := by decide +kernel
theorem dL_areAlike_171 : decode cL_areAlike 171 = .ok (.iconst 3, 1) := by decide +kernel
theorem dL_areAlike_172 : decode cL_areAlike 172 = .ok (.irem, 1) := by decide +kernel
theorem dL_areAlike_173 : decode cL_areAlike 173 = .ok (.invokevirtual 47, 3) := by decide +kernel
theorem dL_areAlike_176 : decode cL_areAlike 176 = .ok (.aload_n 1, 1) := by decide +kernel
theorem dL_areAlike_177 : decode cL_areAlike 177 = .ok (.iload_n 3, 1) := by decide +kernel
theorem dL_areAlike_178 : decode cL_areAlike 178 = .ok (.iconst 3, 1) := by decide +kernel
theorem dL_areAlike_179 : decode cL_areAlike 179 = .ok (.idiv, 1) := by decide +kernel
theorem dL_areAlike_180 : decode cL_areAlike 180 = .ok (.iload_n 3, 1) := by decide +kernel
theorem dL_areAlike_181 : decode cL_areAlike 181 = .ok (.iconst 3, 1) := by decide +kernel
theorem dL_areAlike_182 : decode cL_areAlike 182 = .ok (.irem, 1) := by decide +kernel
theorem dL_areAlike_183 : decode cL_areAlike 183 = .ok (.invokevirtual 47, 3) := by decide +kernel
theorem dL_areAlike_186 : decode cL_areAlike 186 = .ok (.if_icmp .ne 7, 3) := by decide +kernel
theorem dL_areAlike_189 : decode cL_areAlike 189 = .ok (.iconst 1, 1) := by decide +kernel
theorem dL_areAlike_190 : decode cL_areAlike 190 = .ok (.goto 4, 3) := by decide +kernel
theorem dL_areAlike_193 : decode cL_areAlike 193 = .ok (.iconst 0, 1) := by decide +kernel
theorem dL_areAlike_194 : decode cL_areAlike 194 = .ok (.istore_n 2, 1) := by decide +kernel
theorem dL_areAlike_195 : decode cL_areAlike 195 = .ok (.iinc 3 1, 3) := by decide +kernel
theorem dL_areAlike_198 : decode cL_areAlike 198 = .ok (.goto (-47), 3) := by decide +kernel
theorem dL_areAlike_201 : decode cL_areAlike 201 = .ok (.iload_n 2, 1) := by decide +kernel
theorem dL_areAlike_202 : decode cL_areAlike 202 = .ok (.ireturn, 1) := by decide +kernel
theorem dL_areLanesSo_0 : decode cL_areLanesSo 0 = .ok (.iconst 0, 1) := by decide +kernel
theorem dL_areLanesSo_1 : decode cL_areLanesSo 1 = .ok (.istore_n 1, 1) := by decide +kernel
theorem dL_areLanesSo_2 : decode cL_areLanesSo 2 = .ok (.iconst 0, 1) := by decide +kernel
theorem dL_areLanesSo_3 : decode cL_areLanesSo 3 = .ok (.istore_n 2, 1) := by decide +kernel
theorem dL_areLanesSo_4 : decode cL_areLanesSo 4 = .ok (.iconst 0, 1) := by decide +kernel
theorem dL_areLanesSo_5 : decode cL_areLanesSo 5 = .ok (.istore_n 3, 1) := by decide +kernel
theorem dL_areLanesSo_6 : decode cL_areLanesSo 6 = .ok (.iconst 1, 1) := by decide +kernel
theorem dL_areLanesSo_7 : decode cL_areLanesSo 7 = .ok (.istore 4, 2) := by decide +kernel
theorem dL_areLanesSo_9 : decode cL_areLanesSo 9 = .ok (.iconst 0, 1) := by decide +kernel
theorem dL_areLanesSo_10 : decode cL_areLanesSo 10 = .ok (.istore 5, 2) := by decide +kernel
theorem dL_areLanesSo_12 : decode cL_areLanesSo 12 = .ok (.iload 5, 2) := by decide +kernel
theorem dL_areLanesSo_14 : decode cL_areLanesSo 14 = .ok (.aload_n 0, 1) := by decide +kernel
theorem dL_areLanesSo_15 : decode cL_areLanesSo 15 = .ok (.iconst 0, 1) := by decide +kernel
theorem dL_areLanesSo_16 : decode cL_areLanesSo 16 = .ok (.invokevirtual 24, 3) := by decide +kernel
theorem dL_areLanesSo_19 : decode cL_areLanesSo 19 = .ok (.if_icmp .ge 332, 3) := by decide +kernel
theorem dL_areLanesSo_22 : decode cL_areLanesSo 22 = .ok (.aload_n 0, 1) := by decide +kernel
theorem dL_areLanesSo_23 : decode cL_areLanesSo 23 = .ok (.iload 5, 2) := by decide +kernel
theorem dL_areLanesSo_25 : decode cL_areLanesSo 25 = .ok (.iconst 0, 1) := by decide +kernel
theorem dL_areLanesSo_26 : decode cL_areLanesSo 26 = .ok (.invokevirtual 44, 3) := by decide +kernel
theorem dL_areLanesSo_29 : decode cL_areLanesSo 29 = .ok (.istore 6, 2) := by decide +kernel
theorem dL_areLanesSo_31 : decode cL_areLanesSo 31 = .ok (.aload_n 0, 1) := by decide +kernel
theorem dL_areLanesSo_32 : decode cL_areLanesSo 32 = .ok (.iload 5, 2) := by decide +kernel
theorem dL_areLanesSo_34 : decode cL_areLanesSo 34 = .ok (.iconst 1, 1) := by decide +kernel
theorem dL_areLanesSo_35 : decode cL_areLanesSo 35 = .ok (.invokevirtual 44, 3) := by decide +kernel
theorem dL_areLanesSo_38 : decode cL_areLanesSo 38 = .ok (.istore 7, 2) := by decide +kernel
theorem dL_areLanesSo_40 : decode cL_areLanesSo 40 = .ok (.aload_n 0, 1) := by decide +kernel
theorem dL_areLanesSo_41 : decode cL_areLanesSo 41 = .ok (.iload 5, 2) := by decide +kernel
theorem dL_areLanesSo_43 : decode cL_areLanesSo 43 = .ok (.iconst 5, 1) := by decide +kernel
theorem dL_areLanesSo_44 : decode cL_areLanesSo 44 = .ok (.invokevirtual 44, 3) := by decide +kernel
theorem dL_areLanesSo_47 : decode cL_areLanesSo 47 = .ok (.istore 8, 2) := by decide +kernel
theorem dL_areLanesSo_49 : decode cL_areLanesSo 49 = .ok (.iload 8, 2) := by decide +kernel
theorem dL_areLanesSo_51 : decode cL_areLanesSo 51 = .ok (.ifCond .ge 7, 3) := by decide +kernel
theorem dL_areLanesSo_54 : decode cL_areLanesSo 54 = .ok (.iconst 0, 1) := by decide +kernel
theorem dL_areLanesSo_55 : decode cL_areLanesSo 55 = .ok (.goto 10, 3) := by decide +kernel
theorem dL_areLanesSo_58 : decode cL_areLanesSo 58 = .ok (.aload_n 0, 1) := by decide +kernel
theorem dL_areLanesSo_59 : decode cL_areLanesSo 59 = .ok (.iload 8, 2) := by decide +kernel
theorem dL_areLanesSo_61 : decode cL_areLanesSo 61 = .ok (.iconst 0, 1) := by decide +kernel
theorem dL_areLanesSo_62 : decode cL_areLanesSo 62 = .ok (.invokevirtual 41, 3) := by decide +kernel
theorem dL_areLanesSo_65 : decode cL_areLanesSo 65 = .ok (.istore 9, 2) := by decide +kernel
theorem dL_areLanesSo_67 : decode cL_areLanesSo 67 = .ok (.iconst 1, 1) := by decide +kernel
theorem dL_areLanesSo_68 : decode cL_areLanesSo 68 = .ok (.aload_n 0, 1) := by decide +kernel
theorem dL_areLanesSo_69 : decode cL_areLanesSo 69 = .ok (.iload 5, 2) := by decide +kernel
theorem dL_areLanesSo_71 : decode cL_areLanesSo 71 = .ok (.iconst 3, 1) := by decide +kernel
theorem dL_areLanesSo_72 : decode cL_areLanesSo 72 = .ok (.invokevirtual 44, 3) := by decide +kernel
theorem dL_areLanesSo_75 : decode cL_areLanesSo 75 = .ok (.ishl, 1) := by decide +kernel
theorem dL_areLanesSo_76 : decode cL_areLanesSo 76 = .ok (.istore 10, 2) := by decide +kernel
theorem dL_areLanesSo_78 : decode cL_areLanesSo 78 = .ok (.aload_n 0, 1) := by decide +kernel
theorem dL_areLanesSo_79 : decode cL_areLanesSo 79 = .ok (.iload 5, 2) := by decide +kernel
theorem dL_areLanesSo_81 : decode cL_areLanesSo 81 = .ok (.bipush 6, 2) := by decide +kernel
theorem dL_areLanesSo_83 : decode cL_areLanesSo 83 = .ok (.invokevirtual 44, 3) := by decide +kernel
theorem dL_areLanesSo_86 : decode cL_areLanesSo 86 = .ok (.iconst 1, 1) := by decide +kernel
theorem dL_areLanesSo_87 : decode cL_areLanesSo 87 = .ok (.if_icmp .ne 7, 3) := by decide +kernel
theorem dL_areLanesSo_90 : decode cL_areLanesSo 90 = .ok (.iconst 1, 1) := by decide +kernel
theorem dL_areLanesSo_91 : decode cL_areLanesSo 91 = .ok (.goto 4, 3) := by decide +kernel
theorem dL_areLanesSo_94 : decode cL_areLanesSo 94 = .ok (.iconst 0, 1) := by decide +kernel
theorem dL_areLanesSo_95 : decode cL_areLanesSo 95 = .ok (.istore 11, 2) := by decide +kernel
theorem dL_areLanesSo_97 : decode cL_areLanesSo 97 = .ok (.iload_n 1, 1) := by decide +kernel
theorem dL_areLanesSo_98 : decode cL_areLanesSo 98 = .ok (.iload 11, 2) := by decide +kernel
theorem dL_areLanesSo_100 : decode cL_areLanesSo 100 = .ok (.ifCond .eq 7, 3) := by decide +kernel
theorem dL_areLanesSo_103 : decode cL_areLanesSo 103 = .ok (.iconst 1, 1) := by decide +kernel
theorem dL_areLanesSo_104 : decode cL_areLanesSo 104 = .ok (.goto 4, 3) := by decide +kernel
theorem dL_areLanesSo_107 : decode cL_areLanesSo 107 = .ok (.iconst 0, 1) := by decide +kernel
theorem dL_areLanesSo_108 : decode cL_areLanesSo 108 = .ok (.iadd, 1) := by decide +kernel
theorem dL_areLanesSo_109 : decode cL_areLanesSo 109 = .ok (.istore_n 1, 1) := by decide +kernel
theorem dL_areLanesSo_110 : decode cL_areLanesSo 110 = .ok (.iload_n 2, 1) := by decide +kernel
theorem dL_areLanesSo_111 : decode cL_areLanesSo 111 = .ok (.iload 8, 2) := by decide +kernel
theorem dL_areLanesSo_113 : decode cL_areLanesSo 113 = .ok (.ifCond .lt 7, 3) := by decide +kernel
theorem dL_areLanesSo_116 : decode cL_areLanesSo 116 = .ok (.iconst 1, 1) := by decide +kernel
theorem dL_areLanesSo_117 : decode cL_areLanesSo 117 = .ok (.goto 4, 3) := by decide +kernel
theorem dL_areLanesSo_120 : decode cL_areLanesSo 120 = .ok (.iconst 0, 1) := by decide +kernel
theorem dL_areLanesSo_121 : decode cL_areLanesSo 121 = .ok (.iadd, 1) := by decide +kernel
theorem dL_areLanesSo_122 : decode cL_areLanesSo 122 = .ok (.istore_n 2, 1) := by decide +kernel
theorem dL_areLanesSo_123 : decode cL_areLanesSo 123 = .ok (.iload 4, 2) := by decide +kernel
theorem dL_areLanesSo_125 : decode cL_areLanesSo 125 = .ok (.ifCond .eq 217, 3) := by decide +kernel
theorem dL_areLanesSo_128 : decode cL_areLanesSo 128 = .ok (.iload 6, 2) := by decide +kernel
theorem dL_areLanesSo_130 : decode cL_areLanesSo 130 = .ok (.iload 7, 2) := by decide +kernel
theorem dL_areLanesSo_132 : decode cL_areLanesSo 132 = .ok (.if_icmp .eq 210, 3) := by decide +kernel
theorem dL_areLanesSo_135 : decode cL_areLanesSo 135 = .ok (.iload 8, 2) := by decide +kernel
theorem dL_areLanesSo_137 : decode cL_areLanesSo 137 = .ok (.iload 6, 2) := by decide +kernel
theorem dL_areLanesSo_139 : decode cL_areLanesSo 139 = .ok (.if_icmp .eq 17, 3) := by decide +kernel
theorem dL_areLanesSo_142 : decode cL_areLanesSo 142 = .ok (.iload 8, 2) := by decide +kernel
theorem dL_areLanesSo_144 : decode cL_areLanesSo 144 = .ok (.iload 7, 2) := by decide +kernel
theorem dL_areLanesSo_146 : decode cL_areLanesSo 146 = .ok (.if_icmp .eq 10, 3) := by decide +kernel
theorem dL_areLanesSo_149 : decode cL_areLanesSo 149 = .ok (.iload 8, 2) := by decide +kernel
theorem dL_areLanesSo_151 : decode cL_areLanesSo 151 = .ok (.bipush (-5), 2) := by decide +kernel
theorem dL_areLanesSo_153 : decode cL_areLanesSo 153 = .ok (.if_icmp .ne 189, 3) := by decide +kernel
theorem dL_areLanesSo_156 : decode cL_areLanesSo 156 = .ok (.aload_n 0, 1) := by decide +kernel
theorem dL_areLanesSo_157 : decode cL_areLanesSo 157 = .ok (.iload 6, 2) := by decide +kernel
theorem dL_areLanesSo_159 : decode cL_areLanesSo 159 = .ok (.iconst 0, 1) := by decide +kernel
theorem dL_areLanesSo_160 : decode cL_areLanesSo 160 = .ok (.invokevirtual 41, 3) := by decide +kernel
theorem dL_areLanesSo_163 : decode cL_areLanesSo 163 = .ok (.iload 9, 2) := by decide +kernel
theorem dL_areLanesSo_165 : decode cL_areLanesSo 165 = .ok (.if_icmp .gt 177, 3) := by decide +kernel
theorem dL_areLanesSo_168 : decode cL_areLanesSo 168 = .ok (.aload_n 0, 1) := by decide +kernel
theorem dL_areLanesSo_169 : decode cL_areLanesSo 169 = .ok (.iload 7, 2) := by decide +kernel
theorem dL_areLanesSo_171 : decode cL_areLanesSo 171 = .ok (.iconst 0, 1) := by decide +kernel
theorem dL_areLanesSo_172 : decode cL_areLanesSo 172 = .ok (.invokevirtual 41, 3) := by decide +kernel
theorem dL_areLanesSo_175 : decode cL_areLanesSo 175 = .ok (.iload 9, 2) := by decide +kernel
theorem dL_areLanesSo_177 : decode cL_areLanesSo 177 = .ok (.if_icmp .gt 165, 3) := by decide +kernel
theorem dL_areLanesSo_180 : decode cL_areLanesSo 180 = .ok (.iload 8, 2) := by decide +kernel
theorem dL_areLanesSo_182 : decode cL_areLanesSo 182 = .ok (.ifCond .lt 7, 3) := by decide +kernel
theorem dL_areLanesSo_185 : decode cL_areLanesSo 185 = .ok (.iconst 1, 1) := by decide +kernel
theorem dL_areLanesSo_186 : decode cL_areLanesSo 186 = .ok (.goto 4, 3) := by decide +kernel
theorem dL_areLanesSo_189 : decode cL_areLanesSo 189 = .ok (.iconst 0, 1) := by decide +kernel
theorem dL_areLanesSo_190 : decode cL_areLanesSo 190 = .ok (.iload 9, 2) := by decide +kernel
theorem dL_areLanesSo_192 : decode cL_areLanesSo 192 = .ok (.ifCond .le 7, 3) := by decide +kernel
theorem dL_areLanesSo_195 : decode cL_areLanesSo 195 = .ok (.iconst 1, 1) := by decide +kernel
theorem dL_areLanesSo_196 : decode cL_areLanesSo 196 = .ok (.goto 4, 3) := by decide +kernel
theorem dL_areLanesSo_199 : decode cL_areLanesSo 199 = .ok (.iconst 0, 1) := by decide +kernel
theorem dL_areLanesSo_200 : decode cL_areLanesSo 200 = .ok (.if_icmp .ne 142, 3) := by decide +kernel
theorem dL_areLanesSo_203 : decode cL_areLanesSo 203 = .ok (.iload 8, 2) := by decide +kernel
theorem dL_areLanesSo_205 : decode cL_areLanesSo 205 = .ok (.ifCond .lt 34, 3) := by decide +kernel
theorem dL_areLanesSo_208 : decode cL_areLanesSo 208 = .ok (.aload_n 0, 1) := by decide +kernel
theorem dL_areLanesSo_209 : decode cL_areLanesSo 209 = .ok (.iload 6, 2) := by decide +kernel
theorem dL_areLanesSo_211 : decode cL_areLanesSo 211 = .ok (.iconst 0, 1) := by decide +kernel
theorem dL_areLanesSo_212 : decode cL_areLanesSo 212 = .ok (.invokevirtual 41, 3) := by decide +kernel
theorem dL_areLanesSo_215 : decode cL_areLanesSo 215 = .ok (.aload_n 0, 1) := by decide +kernel
theorem dL_areLanesSo_216 : decode cL_areLanesSo 216 = .ok (.iload 7, 2) := by decide +kernel
theorem dL_areLanesSo_218 : decode cL_areLanesSo 218 = .ok (.iconst 0, 1) := by decide +kernel
theorem dL_areLanesSo_219 : decode cL_areLanesSo 219 = .ok (.invokevirtual 41, 3) := by decide +kernel
theorem dL_areLanesSo_222 : decode cL_areLanesSo 222 = .ok (.if_icmp .ne 17, 3) := by decide +kernel
theorem dL_areLanesSo_225 : decode cL_areLanesSo 225 = .ok (.iload 8, 2) := by decide +kernel
theorem dL_areLanesSo_227 : decode cL_areLanesSo 227 = .ok (.iload 6, 2) := by decide +kernel
theorem dL_areLanesSo_229 : decode cL_areLanesSo 229 = .ok (.if_icmp .lt 113, 3) := by decide +kernel
theorem dL_areLanesSo_232 : decode cL_areLanesSo 232 = .ok (.iload 8, 2) := by decide +kernel
theorem dL_areLanesSo_234 : decode cL_areLanesSo 234 = .ok (.iload 7, 2) := by decide +kernel
theorem dL_areLanesSo_236 : decode cL_areLanesSo 236 = .ok (.if_icmp .lt 106, 3) := by decide +kernel
theorem dL_areLanesSo_239 : decode cL_areLanesSo 239 = .ok (.iload 11, 2) := by decide +kernel
theorem dL_areLanesSo_241 : decode cL_areLanesSo 241 = .ok (.aload_n 0, 1) := by decide +kernel
theorem dL_areLanesSo_242 : decode cL_areLanesSo 242 = .ok (.iload 5, 2) := by decide +kernel
theorem dL_areLanesSo_244 : decode cL_areLanesSo 244 = .ok (.iconst 4, 1) := by decide +kernel
theorem dL_areLanesSo_245 : decode cL_areLanesSo 245 = .ok (.invokevirtual 44, 3) := by decide +kernel
theorem dL_areLanesSo_248 : decode cL_areLanesSo 248 = .ok (.ifCond .ne 12, 3) := by decide +kernel
theorem dL_areLanesSo_251 : decode cL_areLanesSo 251 = .ok (.iload 8, 2) := by decide +kernel
theorem dL_areLanesSo_253 : decode cL_areLanesSo 253 = .ok (.ifCond .lt 7, 3) := by decide +kernel
theorem dL_areLanesSo_256 : decode cL_areLanesSo 256 = .ok (.iconst 1, 1) := by decide +kernel
theorem dL_areLanesSo_257 : decode cL_areLanesSo 257 = .ok (.goto 4, 3) := by decide +kernel
theorem dL_areLanesSo_260 : decode cL_areLanesSo 260 = .ok (.iconst 0, 1) := by decide +kernel
theorem dL_areLanesSo_261 : decode cL_areLanesSo 261 = .ok (.if_icmp .ne 81, 3) := by decide +kernel
theorem dL_areLanesSo_264 : decode cL_areLanesSo 264 = .ok (.iload 11, 2) := by decide +kernel
theorem dL_areLanesSo_266 : decode cL_areLanesSo 266 = .ok (.ifCond .eq 72, 3) := by decide +kernel
theorem dL_areLanesSo_269 : decode cL_areLanesSo 269 = .ok (.aload_n 0, 1) := by decide +kernel
theorem dL_areLanesSo_270 : decode cL_areLanesSo 270 = .ok (.iload 6, 2) := by decide +kernel
theorem dL_areLanesSo_272 : decode cL_areLanesSo 272 = .ok (.iconst 1, 1) := by decide +kernel
theorem dL_areLanesSo_273 : decode cL_areLanesSo 273 = .ok (.invokevirtual 41, 3) := by decide +kernel
theorem dL_areLanesSo_276 : decode cL_areLanesSo 276 = .ok (.iload 10, 2) := by decide +kernel
theorem dL_areLanesSo_278 : decode cL_areLanesSo 278 = .ok (.iand, 1) := by decide +kernel
theorem dL_areLanesSo_279 : decode cL_areLanesSo 279 = .ok (.ifCond .le 63, 3) := by decide +kernel
theorem dL_areLanesSo_282 : decode cL_areLanesSo 282 = .ok (.aload_n 0, 1) := by decide +kernel
theorem dL_areLanesSo_283 : decode cL_areLanesSo 283 = .ok (.iload 7, 2) := by decide +kernel
theorem dL_areLanesSo_285 : decode cL_areLanesSo 285 = .ok (.iconst 1, 1) := by decide +kernel
theorem dL_areLanesSo_286 : decode cL_areLanesSo 286 = .ok (.invokevirtual 41, 3) := by decide +kernel
theorem dL_areLanesSo_289 : decode cL_areLanesSo 289 = .ok (.iload 10, 2) := by decide +kernel
theorem dL_areLanesSo_291 : decode cL_areLanesSo 291 = .ok (.iand, 1) := by decide +kernel
theorem dL_areLanesSo_292 : decode cL_areLanesSo 292 = .ok (.ifCond .le 50, 3) := by decide +kernel
theorem dL_areLanesSo_295 : decode cL_areLanesSo 295 = .ok (.aload_n 0, 1) := by decide +kernel
theorem dL_areLanesSo_296 : decode cL_areLanesSo 296 = .ok (.aload_n 0, 1) := by decide +kernel
theorem dL_areLanesSo_297 : decode cL_areLanesSo 297 = .ok (.iload 5, 2) := by decide +kernel
theorem dL_areLanesSo_299 : decode cL_areLanesSo 299 = .ok (.iconst 3, 1) := by decide +kernel
theorem dL_areLanesSo_300 : decode cL_areLanesSo 300 = .ok (.invokevirtual 44, 3) := by decide +kernel
theorem dL_areLanesSo_303 : decode cL_areLanesSo 303 = .ok (.iload 6, 2) := by decide +kernel
theorem dL_areLanesSo_305 : decode cL_areLanesSo 305 = .ok (.iload 7, 2) := by decide +kernel
theorem dL_areLanesSo_307 : decode cL_areLanesSo 307 = .ok (.invokevirtual 50, 3) := by decide +kernel
theorem dL_areLanesSo_310 : decode cL_areLanesSo 310 = .ok (.aload_n 0, 1) := by decide +kernel
theorem dL_areLanesSo_311 : decode cL_areLanesSo 311 = .ok (.iload 5, 2) := by decide +kernel
theorem dL_areLanesSo_313 : decode cL_areLanesSo 313 = .ok (.iconst 2, 1) := by decide +kernel
theorem dL_areLanesSo_314 : decode cL_areLanesSo 314 = .ok (.invokevirtual 44, 3) := by decide +kernel
theorem dL_areLanesSo_317 : decode cL_areLanesSo 317 = .ok (.if_icmp .gt 25, 3) := by decide +kernel
theorem dL_areLanesSo_320 : decode cL_areLanesSo 320 = .ok (.aload_n 0, 1) := by decide +kernel
theorem dL_areLanesSo_321 : decode cL_areLanesSo 321 = .ok (.aload_n 0, 1) := by decide +kernel
theorem dL_areLanesSo_322 : decode cL_areLanesSo 322 = .ok (.iload 5, 2) := by decide +kernel
theorem dL_areLanesSo_324 : decode cL_areLanesSo 324 = .ok (.iconst 3, 1) := by decide +kernel
theorem dL_areLanesSo_325 : decode cL_areLanesSo 325 = .ok (.invokevirtual 44, 3) := by decide +kernel
theorem dL_areLanesSo_328 : decode cL_areLanesSo 328 = .ok (.iload 6, 2) := by decide +kernel
theorem dL_areLanesSo_330 : decode cL_areLanesSo 330 = .ok (.iload 7, 2) := by decide +kernel
theorem dL_areLanesSo_332 : decode cL_areLanesSo 332 = .ok (.invokevirtual 50, 3) := by decide +kernel
theorem dL_areLanesSo_335 : decode cL_areLanesSo 335 = .ok (.ifCond .le 7, 3) := by decide +kernel
theorem dL_areLanesSo_338 : decode cL_areLanesSo 338 = .ok (.iconst 1, 1) := by decide +kernel
theorem dL_areLanesSo_339 : decode cL_areLanesSo 339 = .ok (.goto 4, 3) := by decide +kernel
theorem dL_areLanesSo_342 : decode cL_areLanesSo 342 = .ok (.iconst 0, 1) := by decide +kernel
theorem dL_areLanesSo_343 : decode cL_areLanesSo 343 = .ok (.istore 4, 2) := by decide +kernel
theorem dL_areLanesSo_345 : decode cL_areLanesSo 345 = .ok (.iinc 5 1, 3) := by decide +kernel
theorem dL_areLanesSo_348 : decode cL_areLanesSo 348 = .ok (.goto (-336), 3) := by decide +kernel
theorem dL_areLanesSo_351 : decode cL_areLanesSo 351 = .ok (.iconst 0, 1) := by decide +kernel
theorem dL_areLanesSo_352 : decode cL_areLanesSo 352 = .ok (.istore 5, 2) := by decide +kernel
theorem dL_areLanesSo_354 : decode cL_areLanesSo 354 = .ok (.iload 5, 2) := by decide +kernel
theorem dL_areLanesSo_356 : decode cL_areLanesSo 356 = .ok (.bipush 14, 2) := by decide +kernel
theorem dL_areLanesSo_358 : decode cL_areLanesSo 358 = .ok (.if_icmp .ge 142, 3) := by decide +kernel
theorem dL_areLanesSo_361 : decode cL_areLanesSo 361 = .ok (.aload_n 0, 1) := by decide +kernel
theorem dL_areLanesSo_362 : decode cL_areLanesSo 362 = .ok (.iload 5, 2) := by decide +kernel
theorem dL_areLanesSo_364 : decode cL_areLanesSo 364 = .ok (.iconst 1, 1) := by decide +kernel
theorem dL_areLanesSo_365 : decode cL_areLanesSo 365 = .ok (.invokevirtual 41, 3) := by decide +kernel
theorem dL_areLanesSo_368 : decode cL_areLanesSo 368 = .ok (.istore 6, 2) := by decide +kernel
theorem dL_areLanesSo_370 : decode cL_areLanesSo 370 = .ok (.iload_n 2, 1) := by decide +kernel
theorem dL_areLanesSo_371 : decode cL_areLanesSo 371 = .ok (.aload_n 0, 1) := by decide +kernel
theorem dL_areLanesSo_372 : decode cL_areLanesSo 372 = .ok (.iload 5, 2) := by decide +kernel
theorem dL_areLanesSo_374 : decode cL_areLanesSo 374 = .ok (.iconst 3, 1) := by decide +kernel
theorem dL_areLanesSo_375 : decode cL_areLanesSo 375 = .ok (.invokevirtual 41, 3) := by decide +kernel
theorem dL_areLanesSo_378 : decode cL_areLanesSo 378 = .ok (.isub, 1) := by decide +kernel
theorem dL_areLanesSo_379 : decode cL_areLanesSo 379 = .ok (.istore_n 2, 1) := by decide +kernel
theorem dL_areLanesSo_380 : decode cL_areLanesSo 380 = .ok (.iload_n 3, 1) := by decide +kernel
theorem dL_areLanesSo_381 : decode cL_areLanesSo 381 = .ok (.aload_n 0, 1) := by decide +kernel
theorem dL_areLanesSo_382 : decode cL_areLanesSo 382 = .ok (.iload 5, 2) := by decide +kernel
theorem dL_areLanesSo_384 : decode cL_areLanesSo 384 = .ok (.iconst 2, 1) := by decide +kernel
theorem dL_areLanesSo_385 : decode cL_areLanesSo 385 = .ok (.invokevirtual 41, 3) := by decide +kernel
theorem dL_areLanesSo_388 : decode cL_areLanesSo 388 = .ok (.ifCond .le 7, 3) := by decide +kernel
theorem dL_areLanesSo_391 : decode cL_areLanesSo 391 = .ok (.iconst 1, 1) := by decide +kernel
theorem dL_areLanesSo_392 : decode cL_areLanesSo 392 = .ok (.goto 4, 3) := by decide +kernel
theorem dL_areLanesSo_395 : decode cL_areLanesSo 395 = .ok (.iconst 0, 1) := by decide +kernel
theorem dL_areLanesSo_396 : decode cL_areLanesSo 396 = .ok (.iadd, 1) := by decide +kernel
theorem dL_areLanesSo_397 : decode cL_areLanesSo 397 = .ok (.istore_n 3, 1) := by decide +kernel
theorem dL_areLanesSo_398 : decode cL_areLanesSo 398 = .ok (.iload 4, 2) := by decide +kernel
theorem dL_areLanesSo_400 : decode cL_areLanesSo 400 = .ok (.ifCond .eq 34, 3) := by decide +kernel
theorem dL_areLanesSo_403 : decode cL_areLanesSo 403 = .ok (.aload_n 0, 1) := by decide +kernel
theorem dL_areLanesSo_404 : decode cL_areLanesSo 404 = .ok (.iload 5, 2) := by decide +kernel
theorem dL_areLanesSo_406 : decode cL_areLanesSo 406 = .ok (.iconst 2, 1) := by decide +kernel
theorem dL_areLanesSo_407 : decode cL_areLanesSo 407 = .ok (.invokevirtual 41, 3) := by decide +kernel
theorem dL_areLanesSo_410 : decode cL_areLanesSo 410 = .ok (.iload 6, 2) := by decide +kernel
theorem dL_areLanesSo_412 : decode cL_areLanesSo 412 = .ok (.iconst 1, 1) := by decide +kernel
theorem dL_areLanesSo_413 : decode cL_areLanesSo 413 = .ok (.iand, 1) := by decide +kernel
theorem dL_areLanesSo_414 : decode cL_areLanesSo 414 = .ok (.iconst 1, 1) := by decide +kernel
theorem dL_areLanesSo_415 : decode cL_areLanesSo 415 = .ok (.if_icmp .ne 11, 3) := by decide +kernel
theorem dL_areLanesSo_418 : decode cL_areLanesSo 418 = .ok (.iload 6, 2) := by decide +kernel
theorem dL_areLanesSo_420 : decode cL_areLanesSo 420 = .ok (.bipush 14, 2) := by decide +kernel
theorem dL_areLanesSo_422 : decode cL_areLanesSo 422 = .ok (.iand, 1) := by decide +kernel
theorem dL_areLanesSo_423 : decode cL_areLanesSo 423 = .ok (.goto 4, 3) := by decide +kernel
theorem dL_areLanesSo_426 : decode cL_areLanesSo 426 = .ok (.iconst 0, 1) := by decide +kernel
theorem dL_areLanesSo_427 : decode cL_areLanesSo 427 = .ok (.if_icmp .ne 7, 3) := by decide +kernel
theorem dL_areLanesSo_430 : decode cL_areLanesSo 430 = .ok (.iconst 1, 1) := by decide +kernel
theorem dL_areLanesSo_431 : decode cL_areLanesSo 431 = .ok (.goto 4, 3) := by decide +kernel
theorem dL_areLanesSo_434 : decode cL_areLanesSo 434 = .ok (.iconst 0, 1) := by decide +kernel
theorem dL_areLanesSo_435 : decode cL_areLanesSo 435 = .ok (.istore 4, 2) := by decide +kernel
theorem dL_areLanesSo_437 : decode cL_areLanesSo 437 = .ok (.iconst 0, 1) := by decide +kernel
theorem dL_areLanesSo_438 : decode cL_areLanesSo 438 = .ok (.istore 7, 2) := by decide +kernel
theorem dL_areLanesSo_440 : decode cL_areLanesSo 440 = .ok (.iload 7, 2) := by decide +kernel
theorem dL_areLanesSo_442 : decode cL_areLanesSo 442 = .ok (.iconst 4, 1) := by decide +kernel
theorem dL_areLanesSo_443 : decode cL_areLanesSo 443 = .ok (.if_icmp .ge 51, 3) := by decide +kernel
theorem dL_areLanesSo_446 : decode cL_areLanesSo 446 = .ok (.iload 4, 2) := by decide +kernel
theorem dL_areLanesSo_448 : decode cL_areLanesSo 448 = .ok (.ifCond .eq 37, 3) := by decide +kernel
theorem dL_areLanesSo_451 : decode cL_areLanesSo 451 = .ok (.aload_n 0, 1) := by decide +kernel
theorem dL_areLanesSo_452 : decode cL_areLanesSo 452 = .ok (.iload 7, 2) := by decide +kernel
theorem dL_areLanesSo_454 : decode cL_areLanesSo 454 = .ok (.iload 5, 2) := by decide +kernel
theorem dL_areLanesSo_456 : decode cL_areLanesSo 456 = .ok (.iload 5, 2) := by decide +kernel
theorem dL_areLanesSo_458 : decode cL_areLanesSo 458 = .ok (.invokevirtual 50, 3) := by decide +kernel
theorem dL_areLanesSo_461 : decode cL_areLanesSo 461 = .ok (.iload 6, 2) := by decide +kernel
theorem dL_areLanesSo_463 : decode cL_areLanesSo 463 = .ok (.iload 7, 2) := by decide +kernel
theorem dL_areLanesSo_465 : decode cL_areLanesSo 465 = .ok (.ishr, 1) := by decide +kernel
theorem dL_areLanesSo_466 : decode cL_areLanesSo 466 = .ok (.iconst 1, 1) := by decide +kernel
theorem dL_areLanesSo_467 : decode cL_areLanesSo 467 = .ok (.iand, 1) := by decide +kernel
theorem dL_areLanesSo_468 : decode cL_areLanesSo 468 = .ok (.iconst 1, 1) := by decide +kernel
theorem dL_areLanesSo_469 : decode cL_areLanesSo 469 = .ok (.if_icmp .ne 7, 3) := by decide +kernel
theorem dL_areLanesSo_472 : decode cL_areLanesSo 472 = .ok (.iconst 0, 1) := by decide +kernel
theorem dL_areLanesSo_473 : decode cL_areLanesSo 473 = .ok (.goto 5, 3) := by decide +kernel
theorem dL_areLanesSo_476 : decode cL_areLanesSo 476 = .ok (.bipush (-5), 2) := by decide +kernel
theorem dL_areLanesSo_478 : decode cL_areLanesSo 478 = .ok (.if_icmp .ne 7, 3) := by decide +kernel
theorem dL_areLanesSo_481 : decode cL_areLanesSo 481 = .ok (.iconst 1, 1) := by decide +kernel
theorem dL_areLanesSo_482 : decode cL_areLanesSo 482 = .ok (.goto 4, 3) := by decide +kernel
theorem dL_areLanesSo_485 : decode cL_areLanesSo 485 = .ok (.iconst 0, 1) := by decide +kernel
theorem dL_areLanesSo_486 : decode cL_areLanesSo 486 = .ok (.istore 4, 2) := by decide +kernel
theorem dL_areLanesSo_488 : decode cL_areLanesSo 488 = .ok (.iinc 7 1, 3) := by decide +kernel
theorem dL_areLanesSo_491 : decode cL_areLanesSo 491 = .ok (.goto (-51), 3) := by decide +kernel
theorem dL_areLanesSo_494 : decode cL_areLanesSo 494 = .ok (.iinc 5 1, 3) := by decide +kernel
theorem dL_areLanesSo_497 : decode cL_areLanesSo 497 = .ok (.goto (-143), 3) := by decide +kernel
theorem dL_areLanesSo_500 : decode cL_areLanesSo 500 = .ok (.iload 4, 2) := by decide +kernel
theorem dL_areLanesSo_502 : decode cL_areLanesSo 502 = .ok (.ifCond .eq 29, 3) := by decide +kernel
theorem dL_areLanesSo_505 : decode cL_areLanesSo 505 = .ok (.iload_n 1, 1) := by decide +kernel
theorem dL_areLanesSo_506 : decode cL_areLanesSo 506 = .ok (.aload_n 0, 1) := by decide +kernel
theorem dL_areLanesSo_507 : decode cL_areLanesSo 507 = .ok (.iconst 1, 1) := by decide +kernel
theorem dL_areLanesSo_508 : decode cL_areLanesSo 508 = .ok (.invokevirtual 24, 3) := by decide +kernel
theorem dL_areLanesSo_511 : decode cL_areLanesSo 511 = .ok (.if_icmp .ne 20, 3) := by decide +kernel
theorem dL_areLanesSo_514 : decode cL_areLanesSo 514 = .ok (.iload_n 2, 1) := by decide +kernel
theorem dL_areLanesSo_515 : decode cL_areLanesSo 515 = .ok (.ifCond .ne 16, 3) := by decide +kernel
theorem dL_areLanesSo_518 : decode cL_areLanesSo 518 = .ok (.iload_n 3, 1) := by decide +kernel
theorem dL_areLanesSo_519 : decode cL_areLanesSo 519 = .ok (.aload_n 0, 1) := by decide +kernel
theorem dL_areLanesSo_520 : decode cL_areLanesSo 520 = .ok (.iconst 3, 1) := by decide +kernel
theorem dL_areLanesSo_521 : decode cL_areLanesSo 521 = .ok (.invokevirtual 24, 3) := by decide +kernel
theorem dL_areLanesSo_524 : decode cL_areLanesSo 524 = .ok (.if_icmp .ne 7, 3) := by decide +kernel
theorem dL_areLanesSo_527 : decode cL_areLanesSo 527 = .ok (.iconst 1, 1) := by decide +kernel
theorem dL_areLanesSo_528 : decode cL_areLanesSo 528 = .ok (.goto 4, 3) := by decide +kernel
theorem dL_areLanesSo_531 : decode cL_areLanesSo 531 = .ok (.iconst 0, 1) := by decide +kernel
theorem dL_areLanesSo_532 : decode cL_areLanesSo 532 = .ok (.ireturn, 1) := by decide +kernel
theorem dL_areTotalsSo_0 : decode cL_areTotalsSo 0 = .ok (.aload_n 0, 1) := by decide +kernel
theorem dL_areTotalsSo_1 : decode cL_areTotalsSo 1 = .ok (.iload_n 1, 1) := by decide +kernel
theorem dL_areTotalsSo_2 : decode cL_areTotalsSo 2 = .ok (.iconst 0, 1) := by decide +kernel
theorem dL_areTotalsSo_3 : decode cL_areTotalsSo 3 = .ok (.invokevirtual 47, 3) := by decide +kernel
theorem dL_areTotalsSo_6 : decode cL_areTotalsSo 6 = .ok (.istore_n 2, 1) := by decide +kernel
theorem dL_areTotalsSo_7 : decode cL_areTotalsSo 7 = .ok (.aload_n 0, 1) := by decide +kernel
theorem dL_areTotalsSo_8 : decode cL_areTotalsSo 8 = .ok (.iload_n 1, 1) := by decide +kernel
theorem dL_areTotalsSo_9 : decode cL_areTotalsSo 9 = .ok (.iconst 2, 1) := by decide +kernel
theorem dL_areTotalsSo_10 : decode cL_areTotalsSo 10 = .ok (.invokevirtual 47, 3) := by decide +kernel
theorem dL_areTotalsSo_13 : decode cL_areTotalsSo 13 = .ok (.istore_n 3, 1) := by decide +kernel
theorem dL_areTotalsSo_14 : decode cL_areTotalsSo 14 = .ok (.iconst 0, 1) := by decide +kernel
theorem dL_areTotalsSo_15 : decode cL_areTotalsSo 15 = .ok (.istore 4, 2) := by decide +kernel
theorem dL_areTotalsSo_17 : decode cL_areTotalsSo 17 = .ok (.iconst 1, 1) := by decide +kernel
theorem dL_areTotalsSo_18 : decode cL_areTotalsSo 18 = .ok (.istore 5, 2) := by decide +kernel
theorem dL_areTotalsSo_20 : decode cL_areTotalsSo 20 = .ok (.iconst 0, 1) := by decide +kernel
theorem dL_areTotalsSo_21 : decode cL_areTotalsSo 21 = .ok (.istore 6, 2) := by decide +kernel
theorem dL_areTotalsSo_23 : decode cL_areTotalsSo 23 = .ok (.iload 6, 2) := by decide +kernel
theorem dL_areTotalsSo_25 : decode cL_areTotalsSo 25 = .ok (.bipush 14, 2) := by decide +kernel
theorem dL_areTotalsSo_27 : decode cL_areTotalsSo 27 = .ok (.if_icmp .ge 564, 3) := by decide +kernel
theorem dL_areTotalsSo_30 : decode cL_areTotalsSo 30 = .ok (.aload_n 0, 1) := by decide +kernel
theorem dL_areTotalsSo_31 : decode cL_areTotalsSo 31 = .ok (.iload 6, 2) := by decide +kernel
theorem dL_areTotalsSo_33 : decode cL_areTotalsSo 33 = .ok (.iload_n 1, 1) := by decide +kernel
theorem dL_areTotalsSo_34 : decode cL_areTotalsSo 34 = .ok (.iconst 0, 1) := by decide +kernel
theorem dL_areTotalsSo_35 : decode cL_areTotalsSo 35 = .ok (.invokevirtual 53, 3) := by decide +kernel
theorem dL_areTotalsSo_38 : decode cL_areTotalsSo 38 = .ok (.istore 7, 2) := by decide +kernel
theorem dL_areTotalsSo_40 : decode cL_areTotalsSo 40 = .ok (.aload_n 0, 1) := by decide +kernel
theorem dL_areTotalsSo_41 : decode cL_areTotalsSo 41 = .ok (.iload 6, 2) := by decide +kernel
theorem dL_areTotalsSo_43 : decode cL_areTotalsSo 43 = .ok (.iload_n 1, 1) := by decide +kernel
theorem dL_areTotalsSo_44 : decode cL_areTotalsSo 44 = .ok (.iconst 1, 1) := by decide +kernel
theorem dL_areTotalsSo_45 : decode cL_areTotalsSo 45 = .ok (.invokevirtual 53, 3) := by decide +kernel
theorem dL_areTotalsSo_48 : decode cL_areTotalsSo 48 = .ok (.istore 8, 2) := by decide +kernel
theorem dL_areTotalsSo_50 : decode cL_areTotalsSo 50 = .ok (.aload_n 0, 1) := by decide +kernel
theorem dL_areTotalsSo_51 : decode cL_areTotalsSo 51 = .ok (.iload 6, 2) := by decide +kernel
theorem dL_areTotalsSo_53 : decode cL_areTotalsSo 53 = .ok (.iload_n 1, 1) := by decide +kernel
theorem dL_areTotalsSo_54 : decode cL_areTotalsSo 54 = .ok (.iconst 3, 1) := by decide +kernel
theorem dL_areTotalsSo_55 : decode cL_areTotalsSo 55 = .ok (.invokevirtual 53, 3) := by decide +kernel
theorem dL_areTotalsSo_58 : decode cL_areTotalsSo 58 = .ok (.istore 9, 2) := by decide +kernel
theorem dL_areTotalsSo_60 : decode cL_areTotalsSo 60 = .ok (.aload_n 0, 1) := by decide +kernel
theorem dL_areTotalsSo_61 : decode cL_areTotalsSo 61 = .ok (.iload_n 3, 1) := by decide +kernel
theorem dL_areTotalsSo_62 : decode cL_areTotalsSo 62 = .ok (.iload 6, 2) := by decide +kernel
theorem dL_areTotalsSo_64 : decode cL_areTotalsSo 64 = .ok (.iload_n 2, 1) := by decide +kernel
theorem dL_areTotalsSo_65 : decode cL_areTotalsSo 65 = .ok (.invokevirtual 50, 3) := by decide +kernel
theorem dL_areTotalsSo_68 : decode cL_areTotalsSo 68 = .ok (.istore 10, 2) := by decide +kernel
theorem dL_areTotalsSo_70 : decode cL_areTotalsSo 70 = .ok (.aload_n 0, 1) := by decide +kernel
theorem dL_areTotalsSo_71 : decode cL_areTotalsSo 71 = .ok (.iload 6, 2) := by decide +kernel
theorem dL_areTotalsSo_73 : decode cL_areTotalsSo 73 = .ok (.iload_n 1, 1) := by decide +kernel
theorem dL_areTotalsSo_74 : decode cL_areTotalsSo 74 = .ok (.invokevirtual 56, 3) := by decide +kernel
theorem dL_areTotalsSo_77 : decode cL_areTotalsSo 77 = .ok (.istore 11, 2) := by decide +kernel
theorem dL_areTotalsSo_79 : decode cL_areTotalsSo 79 = .ok (.aload_n 0, 1) := by decide +kernel
theorem dL_areTotalsSo_80 : decode cL_areTotalsSo 80 = .ok (.iload 6, 2) := by decide +kernel
theorem dL_areTotalsSo_82 : decode cL_areTotalsSo 82 = .ok (.iconst 1, 1) := by decide +kernel
theorem dL_areTotalsSo_83 : decode cL_areTotalsSo 83 = .ok (.invokevirtual 41, 3) := by decide +kernel
theorem dL_areTotalsSo_86 : decode cL_areTotalsSo 86 = .ok (.iconst 1, 1) := by decide +kernel
theorem dL_areTotalsSo_87 : decode cL_areTotalsSo 87 = .ok (.iand, 1) := by decide +kernel
theorem dL_areTotalsSo_88 : decode cL_areTotalsSo 88 = .ok (.iconst 1, 1) := by decide +kernel
theorem dL_areTotalsSo_89 : decode cL_areTotalsSo 89 = .ok (.if_icmp .ne 7, 3) := by decide +kernel
theorem dL_areTotalsSo_92 : decode cL_areTotalsSo 92 = .ok (.iconst 1, 1) := by decide +kernel
theorem dL_areTotalsSo_93 : decode cL_areTotalsSo 93 = .ok (.goto 4, 3) := by decide +kernel
theorem dL_areTotalsSo_96 : decode cL_areTotalsSo 96 = .ok (.iconst 0, 1) := by decide +kernel
theorem dL_areTotalsSo_97 : decode cL_areTotalsSo 97 = .ok (.istore 12, 2) := by decide +kernel
theorem dL_areTotalsSo_99 : decode cL_areTotalsSo 99 = .ok (.iload 4, 2) := by decide +kernel
theorem dL_areTotalsSo_101 : decode cL_areTotalsSo 101 = .ok (.iload 7, 2) := by decide +kernel
theorem dL_areTotalsSo_103 : decode cL_areTotalsSo 103 = .ok (.ifCond .lt 7, 3) := by decide +kernel
theorem dL_areTotalsSo_106 : decode cL_areTotalsSo 106 = .ok (.iconst 1, 1) := by decide +kernel
theorem dL_areTotalsSo_107 : decode cL_areTotalsSo 107 = .ok (.goto 4, 3) := by decide +kernel
theorem dL_areTotalsSo_110 : decode cL_areTotalsSo 110 = .ok (.iconst 0, 1) := by decide +kernel
theorem dL_areTotalsSo_111 : decode cL_areTotalsSo 111 = .ok (.iadd, 1) := by decide +kernel
theorem dL_areTotalsSo_112 : decode cL_areTotalsSo 112 = .ok (.istore 4, 2) := by decide +kernel
theorem dL_areTotalsSo_114 : decode cL_areTotalsSo 114 = .ok (.iload 7, 2) := by decide +kernel
theorem dL_areTotalsSo_116 : decode cL_areTotalsSo 116 = .ok (.ifCond .ge 70, 3) := by decide +kernel
theorem dL_areTotalsSo_119 : decode cL_areTotalsSo 119 = .ok (.iload 5, 2) := by decide +kernel
theorem dL_areTotalsSo_121 : decode cL_areTotalsSo 121 = .ok (.ifCond .eq 59, 3) := by decide +kernel
theorem dL_areTotalsSo_124 : decode cL_areTotalsSo 124 = .ok (.iload 7, 2) := by decide +kernel
theorem dL_areTotalsSo_126 : decode cL_areTotalsSo 126 = .ok (.bipush (-5), 2) := by decide +kernel
theorem dL_areTotalsSo_128 : decode cL_areTotalsSo 128 = .ok (.if_icmp .ne 52, 3) := by decide +kernel
theorem dL_areTotalsSo_131 : decode cL_areTotalsSo 131 = .ok (.iload 8, 2) := by decide +kernel
theorem dL_areTotalsSo_133 : decode cL_areTotalsSo 133 = .ok (.bipush (-5), 2) := by decide +kernel
theorem dL_areTotalsSo_135 : decode cL_areTotalsSo 135 = .ok (.if_icmp .ne 45, 3) := by decide +kernel
theorem dL_areTotalsSo_138 : decode cL_areTotalsSo 138 = .ok (.iload 9, 2) := by decide +kernel
theorem dL_areTotalsSo_140 : decode cL_areTotalsSo 140 = .ok (.bipush (-5), 2) := by decide +kernel
theorem dL_areTotalsSo_142 : decode cL_areTotalsSo 142 = .ok (.if_icmp .ne 38, 3) := by decide +kernel
theorem dL_areTotalsSo_145 : decode cL_areTotalsSo 145 = .ok (.iload 10, 2) := by decide +kernel
theorem dL_areTotalsSo_147 : decode cL_areTotalsSo 147 = .ok (.ifCond .ge 33, 3) := by decide +kernel
theorem dL_areTotalsSo_150 : decode cL_areTotalsSo 150 = .ok (.aload_n 0, 1) := by decide +kernel
theorem dL_areTotalsSo_151 : decode cL_areTotalsSo 151 = .ok (.iload 6, 2) := by decide +kernel
theorem dL_areTotalsSo_153 : decode cL_areTotalsSo 153 = .ok (.iload_n 1, 1) := by decide +kernel
theorem dL_areTotalsSo_154 : decode cL_areTotalsSo 154 = .ok (.iconst 0, 1) := by decide +kernel
theorem dL_areTotalsSo_155 : decode cL_areTotalsSo 155 = .ok (.invokevirtual 59, 3) := by decide +kernel
theorem dL_areTotalsSo_158 : decode cL_areTotalsSo 158 = .ok (.bipush (-5), 2) := by decide +kernel
theorem dL_areTotalsSo_160 : decode cL_areTotalsSo 160 = .ok (.if_icmp .ne 20, 3) := by decide +kernel
theorem dL_areTotalsSo_163 : decode cL_areTotalsSo 163 = .ok (.aload_n 0, 1) := by decide +kernel
theorem dL_areTotalsSo_164 : decode cL_areTotalsSo 164 = .ok (.iload 6, 2) := by decide +kernel
theorem dL_areTotalsSo_166 : decode cL_areTotalsSo 166 = .ok (.iload_n 1, 1) := by decide +kernel
theorem dL_areTotalsSo_167 : decode cL_areTotalsSo 167 = .ok (.invokevirtual 62, 3) := by decide +kernel
theorem dL_areTotalsSo_170 : decode cL_areTotalsSo 170 = .ok (.ldc 66, 2) := by decide +kernel
theorem dL_areTotalsSo_172 : decode cL_areTotalsSo 172 = .ok (.fcmp .l, 1) := by decide +kernel
theorem dL_areTotalsSo_173 : decode cL_areTotalsSo 173 = .ok (.ifCond .ne 7, 3) := by decide +kernel
theorem dL_areTotalsSo_176 : decode cL_areTotalsSo 176 = .ok (.iconst 1, 1) := by decide +kernel
theorem dL_areTotalsSo_177 : decode cL_areTotalsSo 177 = .ok (.goto 4, 3) := by decide +kernel
theorem dL_areTotalsSo_180 : decode cL_areTotalsSo 180 = .ok (.iconst 0, 1) := by decide +kernel
theorem dL_areTotalsSo_181 : decode cL_areTotalsSo 181 = .ok (.istore 5, 2) := by decide +kernel
theorem dL_areTotalsSo_183 : decode cL_areTotalsSo 183 = .ok (.goto 402, 3) := by decide +kernel
theorem dL_areTotalsSo_186 : decode cL_areTotalsSo 186 = .ok (.iload 5, 2) := by decide +kernel
theorem dL_areTotalsSo_188 : decode cL_areTotalsSo 188 = .ok (.ifCond .eq 158, 3) := by decide +kernel
theorem dL_areTotalsSo_191 : decode cL_areTotalsSo 191 = .ok (.iload 8, 2) := by decide +kernel
theorem dL_areTotalsSo_193 : decode cL_areTotalsSo 193 = .ok (.iconst 1, 1) := by decide +kernel
theorem dL_areTotalsSo_194 : decode cL_areTotalsSo 194 = .ok (.if_icmp .ne 7, 3) := by decide +kernel
theorem dL_areTotalsSo_197 : decode cL_areTotalsSo 197 = .ok (.iconst 1, 1) := by decide +kernel
theorem dL_areTotalsSo_198 : decode cL_areTotalsSo 198 = .ok (.goto 4, 3) := by decide +kernel
theorem dL_areTotalsSo_201 : decode cL_areTotalsSo 201 = .ok (.iconst 0, 1) := by decide +kernel
theorem dL_areTotalsSo_202 : decode cL_areTotalsSo 202 = .ok (.iload 10, 2) := by decide +kernel
theorem dL_areTotalsSo_204 : decode cL_areTotalsSo 204 = .ok (.ifCond .lt 7, 3) := by decide +kernel
theorem dL_areTotalsSo_207 : decode cL_areTotalsSo 207 = .ok (.iconst 1, 1) := by decide +kernel
theorem dL_areTotalsSo_208 : decode cL_areTotalsSo 208 = .ok (.goto 4, 3) := by decide +kernel
theorem dL_areTotalsSo_211 : decode cL_areTotalsSo 211 = .ok (.iconst 0, 1) := by decide +kernel
theorem dL_areTotalsSo_212 : decode cL_areTotalsSo 212 = .ok (.if_icmp .ne 134, 3) := by decide +kernel
theorem dL_areTotalsSo_215 : decode cL_areTotalsSo 215 = .ok (.iload 8, 2) := by decide +kernel
theorem dL_areTotalsSo_217 : decode cL_areTotalsSo 217 = .ok (.iconst 1, 1) := by decide +kernel
theorem dL_areTotalsSo_218 : decode cL_areTotalsSo 218 = .ok (.if_icmp .ne 17, 3) := by decide +kernel
theorem dL_areTotalsSo_221 : decode cL_areTotalsSo 221 = .ok (.iload 7, 2) := by decide +kernel
theorem dL_areTotalsSo_223 : decode cL_areTotalsSo 223 = .ok (.iload 10, 2) := by decide +kernel
theorem dL_areTotalsSo_225 : decode cL_areTotalsSo 225 = .ok (.aload_n 0, 1) := by decide +kernel
theorem dL_areTotalsSo_226 : decode cL_areTotalsSo 226 = .ok (.iload_n 1, 1) := by decide +kernel
theorem dL_areTotalsSo_227 : decode cL_areTotalsSo 227 = .ok (.iconst 1, 1) := by decide +kernel
theorem dL_areTotalsSo_228 : decode cL_areTotalsSo 228 = .ok (.invokevirtual 47, 3) := by decide +kernel
theorem dL_areTotalsSo_231 : decode cL_areTotalsSo 231 = .ok (.iadd, 1) := by decide +kernel
theorem dL_areTotalsSo_232 : decode cL_areTotalsSo 232 = .ok (.if_icmp .ne 114, 3) := by decide +kernel
theorem dL_areTotalsSo_235 : decode cL_areTotalsSo 235 = .ok (.iload 8, 2) := by decide +kernel
theorem dL_areTotalsSo_237 : decode cL_areTotalsSo 237 = .ok (.iconst 1, 1) := by decide +kernel
theorem dL_areTotalsSo_238 : decode cL_areTotalsSo 238 = .ok (.if_icmp .eq 19, 3) := by decide +kernel
theorem dL_areTotalsSo_241 : decode cL_areTotalsSo 241 = .ok (.iload 8, 2) := by decide +kernel
theorem dL_areTotalsSo_243 : decode cL_areTotalsSo 243 = .ok (.iconst 2, 1) := by decide +kernel
theorem dL_areTotalsSo_244 : decode cL_areTotalsSo 244 = .ok (.if_icmp .ne 7, 3) := by decide +kernel
theorem dL_areTotalsSo_247 : decode cL_areTotalsSo 247 = .ok (.iconst 1, 1) := by decide +kernel
theorem dL_areTotalsSo_248 : decode cL_areTotalsSo 248 = .ok (.goto 4, 3) := by decide +kernel
theorem dL_areTotalsSo_251 : decode cL_areTotalsSo 251 = .ok (.iconst 0, 1) := by decide +kernel
theorem dL_areTotalsSo_252 : decode cL_areTotalsSo 252 = .ok (.iload 12, 2) := by decide +kernel
theorem dL_areTotalsSo_254 : decode cL_areTotalsSo 254 = .ok (.if_icmp .ne 92, 3) := by decide +kernel
theorem dL_areTotalsSo_257 : decode cL_areTotalsSo 257 = .ok (.iload 8, 2) := by decide +kernel
theorem dL_areTotalsSo_259 : decode cL_areTotalsSo 259 = .ok (.iconst 2, 1) := by decide +kernel
theorem dL_areTotalsSo_260 : decode cL_areTotalsSo 260 = .ok (.if_icmp .ne 7, 3) := by decide +kernel
theorem dL_areTotalsSo_263 : decode cL_areTotalsSo 263 = .ok (.iload_n 3, 1) := by decide +kernel
theorem dL_areTotalsSo_264 : decode cL_areTotalsSo 264 = .ok (.ifCond .le 82, 3) := by decide +kernel
theorem dL_areTotalsSo_267 : decode cL_areTotalsSo 267 = .ok (.iload 11, 2) := by decide +kernel
theorem dL_areTotalsSo_269 : decode cL_areTotalsSo 269 = .ok (.ifCond .lt 77, 3) := by decide +kernel
theorem dL_areTotalsSo_272 : decode cL_areTotalsSo 272 = .ok (.iload 7, 2) := by decide +kernel
theorem dL_areTotalsSo_274 : decode cL_areTotalsSo 274 = .ok (.iload 11, 2) := by decide +kernel
theorem dL_areTotalsSo_276 : decode cL_areTotalsSo 276 = .ok (.if_icmp .lt 70, 3) := by decide +kernel
theorem dL_areTotalsSo_279 : decode cL_areTotalsSo 279 = .ok (.aload_n 0, 1) := by decide +kernel
theorem dL_areTotalsSo_280 : decode cL_areTotalsSo 280 = .ok (.iload 6, 2) := by decide +kernel
theorem dL_areTotalsSo_282 : decode cL_areTotalsSo 282 = .ok (.iload_n 1, 1) := by decide +kernel
theorem dL_areTotalsSo_283 : decode cL_areTotalsSo 283 = .ok (.invokevirtual 62, 3) := by decide +kernel
theorem dL_areTotalsSo_286 : decode cL_areTotalsSo 286 = .ok (.fconst 1, 1) := by decide +kernel
theorem dL_areTotalsSo_287 : decode cL_areTotalsSo 287 = .ok (.fcmp .l, 1) := by decide +kernel
theorem dL_areTotalsSo_288 : decode cL_areTotalsSo 288 = .ok (.ifCond .lt 58, 3) := by decide +kernel
theorem dL_areTotalsSo_291 : decode cL_areTotalsSo 291 = .ok (.iload 8, 2) := by decide +kernel
theorem dL_areTotalsSo_293 : decode cL_areTotalsSo 293 = .ok (.iconst 1, 1) := by decide +kernel
theorem dL_areTotalsSo_294 : decode cL_areTotalsSo 294 = .ok (.if_icmp .ne 17, 3) := by decide +kernel
theorem dL_areTotalsSo_297 : decode cL_areTotalsSo 297 = .ok (.iload 6, 2) := by decide +kernel
theorem dL_areTotalsSo_299 : decode cL_areTotalsSo 299 = .ok (.iload_n 2, 1) := by decide +kernel
theorem dL_areTotalsSo_300 : decode cL_areTotalsSo 300 = .ok (.if_icmp .ne 11, 3) := by decide +kernel
theorem dL_areTotalsSo_303 : decode cL_areTotalsSo 303 = .ok (.iload 9, 2) := by decide +kernel
theorem dL_areTotalsSo_305 : decode cL_areTotalsSo 305 = .ok (.ifCond .ne 41, 3) := by decide +kernel
theorem dL_areTotalsSo_308 : decode cL_areTotalsSo 308 = .ok (.goto 8, 3) := by decide +kernel
theorem dL_areTotalsSo_311 : decode cL_areTotalsSo 311 = .ok (.iload 9, 2) := by decide +kernel
theorem dL_areTotalsSo_313 : decode cL_areTotalsSo 313 = .ok (.ifCond .le 33, 3) := by decide +kernel
theorem dL_areTotalsSo_316 : decode cL_areTotalsSo 316 = .ok (.aload_n 0, 1) := by decide +kernel
theorem dL_areTotalsSo_317 : decode cL_areTotalsSo 317 = .ok (.iload 6, 2) := by decide +kernel
theorem dL_areTotalsSo_319 : decode cL_areTotalsSo 319 = .ok (.iload_n 1, 1) := by decide +kernel
theorem dL_areTotalsSo_320 : decode cL_areTotalsSo 320 = .ok (.iconst 2, 1) := by decide +kernel
theorem dL_areTotalsSo_321 : decode cL_areTotalsSo 321 = .ok (.invokevirtual 53, 3) := by decide +kernel
theorem dL_areTotalsSo_324 : decode cL_areTotalsSo 324 = .ok (.iload 9, 2) := by decide +kernel
theorem dL_areTotalsSo_326 : decode cL_areTotalsSo 326 = .ok (.ifCond .ne 8, 3) := by decide +kernel
theorem dL_areTotalsSo_329 : decode cL_areTotalsSo 329 = .ok (.bipush (-5), 2) := by decide +kernel
theorem dL_areTotalsSo_331 : decode cL_areTotalsSo 331 = .ok (.goto 8, 3) := by decide +kernel
theorem dL_areTotalsSo_334 : decode cL_areTotalsSo 334 = .ok (.iload 9, 2) := by decide +kernel
theorem dL_areTotalsSo_336 : decode cL_areTotalsSo 336 = .ok (.invokestatic 67, 3) := by decide +kernel
theorem dL_areTotalsSo_339 : decode cL_areTotalsSo 339 = .ok (.if_icmp .ne 7, 3) := by decide +kernel
theorem dL_areTotalsSo_342 : decode cL_areTotalsSo 342 = .ok (.iconst 1, 1) := by decide +kernel
theorem dL_areTotalsSo_343 : decode cL_areTotalsSo 343 = .ok (.goto 4, 3) := by decide +kernel
theorem dL_areTotalsSo_346 : decode cL_areTotalsSo 346 = .ok (.iconst 0, 1) := by decide +kernel
theorem dL_areTotalsSo_347 : decode cL_areTotalsSo 347 = .ok (.istore 5, 2) := by decide +kernel
theorem dL_areTotalsSo_349 : decode cL_areTotalsSo 349 = .ok (.iconst 0, 1) := by decide +kernel
theorem dL_areTotalsSo_350 : decode cL_areTotalsSo 350 = .ok (.istore 13, 2) := by decide +kernel
theorem dL_areTotalsSo_352 : decode cL_areTotalsSo 352 = .ok (.iload 13, 2) := by decide +kernel
theorem dL_areTotalsSo_354 : decode cL_areTotalsSo 354 = .ok (.bipush 14, 2) := by decide +kernel
theorem dL_areTotalsSo_356 : decode cL_areTotalsSo 356 = .ok (.if_icmp .ge 94, 3) := by decide +kernel
theorem dL_areTotalsSo_359 : decode cL_areTotalsSo 359 = .ok (.iload 5, 2) := by decide +kernel
theorem dL_areTotalsSo_361 : decode cL_areTotalsSo 361 = .ok (.ifCond .eq 80, 3) := by decide +kernel
theorem dL_areTotalsSo_364 : decode cL_areTotalsSo 364 = .ok (.iload 9, 2) := by decide +kernel
theorem dL_areTotalsSo_366 : decode cL_areTotalsSo 366 = .ok (.iload 13, 2) := by decide +kernel
theorem dL_areTotalsSo_368 : decode cL_areTotalsSo 368 = .ok (.ishr, 1) := by decide +kernel
theorem dL_areTotalsSo_369 : decode cL_areTotalsSo 369 = .ok (.iconst 1, 1) := by decide +kernel
theorem dL_areTotalsSo_370 : decode cL_areTotalsSo 370 = .ok (.iand, 1) := by decide +kernel
theorem dL_areTotalsSo_371 : decode cL_areTotalsSo 371 = .ok (.ifCond .eq 66, 3) := by decide +kernel
theorem dL_areTotalsSo_374 : decode cL_areTotalsSo 374 = .ok (.aload_n 0, 1) := by decide +kernel
theorem dL_areTotalsSo_375 : decode cL_areTotalsSo 375 = .ok (.iload 6, 2) := by decide +kernel
theorem dL_areTotalsSo_377 : decode cL_areTotalsSo 377 = .ok (.iload 13, 2) := by decide +kernel
theorem dL_areTotalsSo_379 : decode cL_areTotalsSo 379 = .ok (.iload 8, 2) := by decide +kernel
theorem dL_areTotalsSo_381 : decode cL_areTotalsSo 381 = .ok (.iconst 1, 1) := by decide +kernel
theorem dL_areTotalsSo_382 : decode cL_areTotalsSo 382 = .ok (.if_icmp .ne 7, 3) := by decide +kernel
theorem dL_areTotalsSo_385 : decode cL_areTotalsSo 385 = .ok (.iload_n 3, 1) := by decide +kernel
theorem dL_areTotalsSo_386 : decode cL_areTotalsSo 386 = .ok (.goto 14, 3) := by decide +kernel
theorem dL_areTotalsSo_389 : decode cL_areTotalsSo 389 = .ok (.iload 8, 2) := by decide +kernel
theorem dL_areTotalsSo_391 : decode cL_areTotalsSo 391 = .ok (.iconst 2, 1) := by decide +kernel
theorem dL_areTotalsSo_392 : decode cL_areTotalsSo 392 = .ok (.if_icmp .ne 7, 3) := by decide +kernel
theorem dL_areTotalsSo_395 : decode cL_areTotalsSo 395 = .ok (.iconst 0, 1) := by decide +kernel
theorem dL_areTotalsSo_396 : decode cL_areTotalsSo 396 = .ok (.goto 4, 3) := by decide +kernel
theorem dL_areTotalsSo_399 : decode cL_areTotalsSo 399 = .ok (.iconst (-1), 1) := by decide +kernel
theorem dL_areTotalsSo_400 : decode cL_areTotalsSo 400 = .ok (.invokestatic 70, 3) := by decide +kernel
theorem dL_areTotalsSo_403 : decode cL_areTotalsSo 403 = .ok (.ifCond .eq 38, 3) := by decide +kernel
theorem dL_areTotalsSo_406 : decode cL_areTotalsSo 406 = .ok (.iload 8, 2) := by decide +kernel
theorem dL_areTotalsSo_408 : decode cL_areTotalsSo 408 = .ok (.iconst 1, 1) := by decide +kernel
theorem dL_areTotalsSo_409 : decode cL_areTotalsSo 409 = .ok (.if_icmp .ne 28, 3) := by decide +kernel
theorem dL_areTotalsSo_412 : decode cL_areTotalsSo 412 = .ok (.aload_n 0, 1) := by decide +kernel
theorem dL_areTotalsSo_413 : decode cL_areTotalsSo 413 = .ok (.iload 13, 2) := by decide +kernel
theorem dL_areTotalsSo_415 : decode cL_areTotalsSo 415 = .ok (.iload_n 1, 1) := by decide +kernel
theorem dL_areTotalsSo_416 : decode cL_areTotalsSo 416 = .ok (.iconst 1, 1) := by decide +kernel
theorem dL_areTotalsSo_417 : decode cL_areTotalsSo 417 = .ok (.invokevirtual 53, 3) := by decide +kernel
theorem dL_areTotalsSo_420 : decode cL_areTotalsSo 420 = .ok (.iconst 1, 1) := by decide +kernel
theorem dL_areTotalsSo_421 : decode cL_areTotalsSo 421 = .ok (.if_icmp .ne 20, 3) := by decide +kernel
theorem dL_areTotalsSo_424 : decode cL_areTotalsSo 424 = .ok (.aload_n 0, 1) := by decide +kernel
theorem dL_areTotalsSo_425 : decode cL_areTotalsSo 425 = .ok (.iload 13, 2) := by decide +kernel
theorem dL_areTotalsSo_427 : decode cL_areTotalsSo 427 = .ok (.iload_n 1, 1) := by decide +kernel
theorem dL_areTotalsSo_428 : decode cL_areTotalsSo 428 = .ok (.iconst 0, 1) := by decide +kernel
theorem dL_areTotalsSo_429 : decode cL_areTotalsSo 429 = .ok (.invokevirtual 53, 3) := by decide +kernel
theorem dL_areTotalsSo_432 : decode cL_areTotalsSo 432 = .ok (.iload 7, 2) := by decide +kernel
theorem dL_areTotalsSo_434 : decode cL_areTotalsSo 434 = .ok (.if_icmp .ge 7, 3) := by decide +kernel
theorem dL_areTotalsSo_437 : decode cL_areTotalsSo 437 = .ok (.iconst 1, 1) := by decide +kernel
theorem dL_areTotalsSo_438 : decode cL_areTotalsSo 438 = .ok (.goto 4, 3) := by decide +kernel
theorem dL_areTotalsSo_441 : decode cL_areTotalsSo 441 = .ok (.iconst 0, 1) := by decide +kernel
theorem dL_areTotalsSo_442 : decode cL_areTotalsSo 442 = .ok (.istore 5, 2) := by decide +kernel
theorem dL_areTotalsSo_444 : decode cL_areTotalsSo 444 = .ok (.iinc 13 1, 3) := by decide +kernel
theorem dL_areTotalsSo_447 : decode cL_areTotalsSo 447 = .ok (.goto (-95), 3) := by decide +kernel
theorem dL_areTotalsSo_450 : decode cL_areTotalsSo 450 = .ok (.aload_n 0, 1) := by decide +kernel
theorem dL_areTotalsSo_451 : decode cL_areTotalsSo 451 = .ok (.iload 6, 2) := by decide +kernel
theorem dL_areTotalsSo_453 : decode cL_areTotalsSo 453 = .ok (.iload_n 1, 1) := by decide +kernel
theorem dL_areTotalsSo_454 : decode cL_areTotalsSo 454 = .ok (.iconst 0, 1) := by decide +kernel
theorem dL_areTotalsSo_455 : decode cL_areTotalsSo 455 = .ok (.invokevirtual 59, 3) := by decide +kernel
theorem dL_areTotalsSo_458 : decode cL_areTotalsSo 458 = .ok (.istore 13, 2) := by decide +kernel
theorem dL_areTotalsSo_460 : decode cL_areTotalsSo 460 = .ok (.iload 5, 2) := by decide +kernel
theorem dL_areTotalsSo_462 : decode cL_areTotalsSo 462 = .ok (.ifCond .eq 120, 3) := by decide +kernel
theorem dL_areTotalsSo_465 : decode cL_areTotalsSo 465 = .ok (.iload 13, 2) := by decide +kernel
theorem dL_areTotalsSo_467 : decode cL_areTotalsSo 467 = .ok (.bipush (-5), 2) := by decide +kernel
theorem dL_areTotalsSo_469 : decode cL_areTotalsSo 469 = .ok (.if_icmp .eq 85, 3) := by decide +kernel
theorem dL_areTotalsSo_472 : decode cL_areTotalsSo 472 = .ok (.iload 13, 2) := by decide +kernel
theorem dL_areTotalsSo_474 : decode cL_areTotalsSo 474 = .ok (.ifCond .lt 108, 3) := by decide +kernel
theorem dL_areTotalsSo_477 : decode cL_areTotalsSo 477 = .ok (.iload 13, 2) := by decide +kernel
theorem dL_areTotalsSo_479 : decode cL_areTotalsSo 479 = .ok (.bipush 30, 2) := by decide +kernel
theorem dL_areTotalsSo_481 : decode cL_areTotalsSo 481 = .ok (.if_icmp .gt 101, 3) := by decide +kernel
theorem dL_areTotalsSo_484 : decode cL_areTotalsSo 484 = .ok (.aload_n 0, 1) := by decide +kernel
theorem dL_areTotalsSo_485 : decode cL_areTotalsSo 485 = .ok (.iload 6, 2) := by decide +kernel
theorem dL_areTotalsSo_487 : decode cL_areTotalsSo 487 = .ok (.iload_n 1, 1) := by decide +kernel
theorem dL_areTotalsSo_488 : decode cL_areTotalsSo 488 = .ok (.iconst 1, 1) := by decide +kernel
theorem dL_areTotalsSo_489 : decode cL_areTotalsSo 489 = .ok (.invokevirtual 59, 3) := by decide +kernel
theorem dL_areTotalsSo_492 : decode cL_areTotalsSo 492 = .ok (.iload 11, 2) := by decide +kernel
theorem dL_areTotalsSo_494 : decode cL_areTotalsSo 494 = .ok (.if_icmp .lt 88, 3) := by decide +kernel
theorem dL_areTotalsSo_497 : decode cL_areTotalsSo 497 = .ok (.aload_n 0, 1) := by decide +kernel
theorem dL_areTotalsSo_498 : decode cL_areTotalsSo 498 = .ok (.iload 6, 2) := by decide +kernel
theorem dL_areTotalsSo_500 : decode cL_areTotalsSo 500 = .ok (.iload_n 1, 1) := by decide +kernel
theorem dL_areTotalsSo_501 : decode cL_areTotalsSo 501 = .ok (.iconst 2, 1) := by decide +kernel
theorem dL_areTotalsSo_502 : decode cL_areTotalsSo 502 = .ok (.invokevirtual 59, 3) := by decide +kernel
theorem dL_areTotalsSo_505 : decode cL_areTotalsSo 505 = .ok (.iload_n 2, 1) := by decide +kernel
theorem dL_areTotalsSo_506 : decode cL_areTotalsSo 506 = .ok (.ishr, 1) := by decide +kernel
theorem dL_areTotalsSo_507 : decode cL_areTotalsSo 507 = .ok (.iconst 1, 1) := by decide +kernel
theorem dL_areTotalsSo_508 : decode cL_areTotalsSo 508 = .ok (.iand, 1) := by decide +kernel
theorem dL_areTotalsSo_509 : decode cL_areTotalsSo 509 = .ok (.iconst 1, 1) := by decide +kernel
theorem dL_areTotalsSo_510 : decode cL_areTotalsSo 510 = .ok (.if_icmp .ne 72, 3) := by decide +kernel
theorem dL_areTotalsSo_513 : decode cL_areTotalsSo 513 = .ok (.aload_n 0, 1) := by decide +kernel
theorem dL_areTotalsSo_514 : decode cL_areTotalsSo 514 = .ok (.iload 6, 2) := by decide +kernel
theorem dL_areTotalsSo_516 : decode cL_areTotalsSo 516 = .ok (.iload_n 1, 1) := by decide +kernel
theorem dL_areTotalsSo_517 : decode cL_areTotalsSo 517 = .ok (.iconst 2, 1) := by decide +kernel
theorem dL_areTotalsSo_518 : decode cL_areTotalsSo 518 = .ok (.invokevirtual 59, 3) := by decide +kernel
theorem dL_areTotalsSo_521 : decode cL_areTotalsSo 521 = .ok (.iload 6, 2) := by decide +kernel
theorem dL_areTotalsSo_523 : decode cL_areTotalsSo 523 = .ok (.ishr, 1) := by decide +kernel
theorem dL_areTotalsSo_524 : decode cL_areTotalsSo 524 = .ok (.iconst 1, 1) := by decide +kernel
theorem dL_areTotalsSo_525 : decode cL_areTotalsSo 525 = .ok (.iand, 1) := by decide +kernel
theorem dL_areTotalsSo_526 : decode cL_areTotalsSo 526 = .ok (.iconst 1, 1) := by decide +kernel
theorem dL_areTotalsSo_527 : decode cL_areTotalsSo 527 = .ok (.if_icmp .ne 55, 3) := by decide +kernel
theorem dL_areTotalsSo_530 : decode cL_areTotalsSo 530 = .ok (.iload 13, 2) := by decide +kernel
theorem dL_areTotalsSo_532 : decode cL_areTotalsSo 532 = .ok (.ifCond .ne 7, 3) := by decide +kernel
theorem dL_areTotalsSo_535 : decode cL_areTotalsSo 535 = .ok (.iconst 1, 1) := by decide +kernel
theorem dL_areTotalsSo_536 : decode cL_areTotalsSo 536 = .ok (.goto 4, 3) := by decide +kernel
theorem dL_areTotalsSo_539 : decode cL_areTotalsSo 539 = .ok (.iconst 0, 1) := by decide +kernel
theorem dL_areTotalsSo_540 : decode cL_areTotalsSo 540 = .ok (.iload 6, 2) := by decide +kernel
theorem dL_areTotalsSo_542 : decode cL_areTotalsSo 542 = .ok (.iload_n 2, 1) := by decide +kernel
theorem dL_areTotalsSo_543 : decode cL_areTotalsSo 543 = .ok (.if_icmp .ne 7, 3) := by decide +kernel
theorem dL_areTotalsSo_546 : decode cL_areTotalsSo 546 = .ok (.iconst 1, 1) := by decide +kernel
theorem dL_areTotalsSo_547 : decode cL_areTotalsSo 547 = .ok (.goto 4, 3) := by decide +kernel
theorem dL_areTotalsSo_550 : decode cL_areTotalsSo 550 = .ok (.iconst 0, 1) := by decide +kernel
theorem dL_areTotalsSo_551 : decode cL_areTotalsSo 551 = .ok (.if_icmp .ne 31, 3) := by decide +kernel
theorem dL_areTotalsSo_554 : decode cL_areTotalsSo 554 = .ok (.iload 8, 2) := by decide +kernel
theorem dL_areTotalsSo_556 : decode cL_areTotalsSo 556 = .ok (.iconst 1, 1) := by decide +kernel
theorem dL_areTotalsSo_557 : decode cL_areTotalsSo 557 = .ok (.if_icmp .ne 21, 3) := by decide +kernel
theorem dL_areTotalsSo_560 : decode cL_areTotalsSo 560 = .ok (.iload 13, 2) := by decide +kernel
theorem dL_areTotalsSo_562 : decode cL_areTotalsSo 562 = .ok (.ifCond .lt 20, 3) := by decide +kernel
theorem dL_areTotalsSo_565 : decode cL_areTotalsSo 565 = .ok (.aload_n 0, 1) := by decide +kernel
theorem dL_areTotalsSo_566 : decode cL_areTotalsSo 566 = .ok (.iload 6, 2) := by decide +kernel
theorem dL_areTotalsSo_568 : decode cL_areTotalsSo 568 = .ok (.iload_n 1, 1) := by decide +kernel
theorem dL_areTotalsSo_569 : decode cL_areTotalsSo 569 = .ok (.iconst 1, 1) := by decide +kernel
theorem dL_areTotalsSo_570 : decode cL_areTotalsSo 570 = .ok (.invokevirtual 59, 3) := by decide +kernel
theorem dL_areTotalsSo_573 : decode cL_areTotalsSo 573 = .ok (.iload 7, 2) := by decide +kernel
theorem dL_areTotalsSo_575 : decode cL_areTotalsSo 575 = .ok (.if_icmp .ne 7, 3) := by decide +kernel
theorem dL_areTotalsSo_578 : decode cL_areTotalsSo 578 = .ok (.iconst 1, 1) := by decide +kernel
theorem dL_areTotalsSo_579 : decode cL_areTotalsSo 579 = .ok (.goto 4, 3) := by decide +kernel
theorem dL_areTotalsSo_582 : decode cL_areTotalsSo 582 = .ok (.iconst 0, 1) := by decide +kernel
theorem dL_areTotalsSo_583 : decode cL_areTotalsSo 583 = .ok (.istore 5, 2) := by decide +kernel
theorem dL_areTotalsSo_585 : decode cL_areTotalsSo 585 = .ok (.iinc 6 1, 3) := by decide +kernel
theorem dL_areTotalsSo_588 : decode cL_areTotalsSo 588 = .ok (.goto (-565), 3) := by decide +kernel
theorem dL_areTotalsSo_591 : decode cL_areTotalsSo 591 = .ok (.iload 5, 2) := by decide +kernel
theorem dL_areTotalsSo_593 : decode cL_areTotalsSo 593 = .ok (.ifCond .eq 18, 3) := by decide +kernel
theorem dL_areTotalsSo_596 : decode cL_areTotalsSo 596 = .ok (.iload 4, 2) := by decide +kernel
theorem dL_areTotalsSo_598 : decode cL_areTotalsSo 598 = .ok (.aload_n 0, 1) := by decide +kernel
theorem dL_areTotalsSo_599 : decode cL_areTotalsSo 599 = .ok (.iload_n 1, 1) := by decide +kernel
theorem dL_areTotalsSo_600 : decode cL_areTotalsSo 600 = .ok (.iconst 3, 1) := by decide +kernel
theorem dL_areTotalsSo_601 : decode cL_areTotalsSo 601 = .ok (.invokevirtual 47, 3) := by decide +kernel
theorem dL_areTotalsSo_604 : decode cL_areTotalsSo 604 = .ok (.if_icmp .ne 7, 3) := by decide +kernel
theorem dL_areTotalsSo_607 : decode cL_areTotalsSo 607 = .ok (.iconst 1, 1) := by decide +kernel
theorem dL_areTotalsSo_608 : decode cL_areTotalsSo 608 = .ok (.goto 4, 3) := by decide +kernel
theorem dL_areTotalsSo_611 : decode cL_areTotalsSo 611 = .ok (.iconst 0, 1) := by decide +kernel
theorem dL_areTotalsSo_612 : decode cL_areTotalsSo 612 = .ok (.ireturn, 1) := by decide +kernel
theorem dL_lowest_0 : decode cL_lowest 0 = .ok (.iconst 0, 1) := by decide +kernel
theorem dL_lowest_1 : decode cL_lowest 1 = .ok (.istore_n 1, 1) := by decide +kernel
theorem dL_lowest_2 : decode cL_lowest 2 = .ok (.iload_n 0, 1) := by decide +kernel
theorem dL_lowest_3 : decode cL_lowest 3 = .ok (.iload_n 1, 1) := by decide +kernel
theorem dL_lowest_4 : decode cL_lowest 4 = .ok (.ishr, 1) := by decide +kernel
theorem dL_lowest_5 : decode cL_lowest 5 = .ok (.iconst 1, 1) := by decide +kernel
theorem dL_lowest_6 : decode cL_lowest 6 = .ok (.iand, 1) := by decide +kernel
theorem dL_lowest_7 : decode cL_lowest 7 = .ok (.ifCond .ne 9, 3) := by decide +kernel
theorem dL_lowest_10 : decode cL_lowest 10 = .ok (.iinc 1 1, 3) := by decide +kernel
theorem dL_lowest_13 : decode cL_lowest 13 = .ok (.goto (-11), 3) := by decide +kernel
theorem dL_lowest_16 : decode cL_lowest 16 = .ok (.iload_n 1, 1) := by decide +kernel
theorem dL_lowest_17 : decode cL_lowest 17 = .ok (.ireturn, 1) := by decide +kernel
theorem dL_isLane_0 : decode cL_isLane 0 = .ok (.iconst 0, 1) := by decide +kernel
theorem dL_isLane_1 : decode cL_isLane 1 = .ok (.istore 4, 2) := by decide +kernel
theorem dL_isLane_3 : decode cL_isLane 3 = .ok (.iconst 0, 1) := by decide +kernel
theorem dL_isLane_4 : decode cL_isLane 4 = .ok (.istore 5, 2) := by decide +kernel
theorem dL_isLane_6 : decode cL_isLane 6 = .ok (.iload 5, 2) := by decide +kernel
theorem dL_isLane_8 : decode cL_isLane 8 = .ok (.aload_n 0, 1) := by decide +kernel
theorem dL_isLane_9 : decode cL_isLane 9 = .ok (.iconst 0, 1) := by decide +kernel
theorem dL_isLane_10 : decode cL_isLane 10 = .ok (.invokevirtual 24, 3) := by decide +kernel
theorem dL_isLane_13 : decode cL_isLane 13 = .ok (.if_icmp .ge 117, 3) := by decide +kernel
theorem dL_isLane_16 : decode cL_isLane 16 = .ok (.aload_n 0, 1) := by decide +kernel
theorem dL_isLane_17 : decode cL_isLane 17 = .ok (.iload 5, 2) := by decide +kernel
theorem dL_isLane_19 : decode cL_isLane 19 = .ok (.iconst 0, 1) := by decide +kernel
theorem dL_isLane_20 : decode cL_isLane 20 = .ok (.invokevirtual 44, 3) := by decide +kernel
theorem dL_isLane_23 : decode cL_isLane 23 = .ok (.iload_n 1, 1) := by decide +kernel
theorem dL_isLane_24 : decode cL_isLane 24 = .ok (.if_icmp .ne 14, 3) := by decide +kernel
theorem dL_isLane_27 : decode cL_isLane 27 = .ok (.aload_n 0, 1) := by decide +kernel
theorem dL_isLane_28 : decode cL_isLane 28 = .ok (.iload 5, 2) := by decide +kernel
theorem dL_isLane_30 : decode cL_isLane 30 = .ok (.iconst 1, 1) := by decide +kernel
theorem dL_isLane_31 : decode cL_isLane 31 = .ok (.invokevirtual 44, 3) := by decide +kernel
theorem dL_isLane_34 : decode cL_isLane 34 = .ok (.iload_n 2, 1) := by decide +kernel
theorem dL_isLane_35 : decode cL_isLane 35 = .ok (.if_icmp .eq 25, 3) := by decide +kernel
theorem dL_isLane_38 : decode cL_isLane 38 = .ok (.aload_n 0, 1) := by decide +kernel
theorem dL_isLane_39 : decode cL_isLane 39 = .ok (.iload 5, 2) := by decide +kernel
theorem dL_isLane_41 : decode cL_isLane 41 = .ok (.iconst 1, 1) := by decide +kernel
theorem dL_isLane_42 : decode cL_isLane 42 = .ok (.invokevirtual 44, 3) := by decide +kernel
theorem dL_isLane_45 : decode cL_isLane 45 = .ok (.iload_n 1, 1) := by decide +kernel
theorem dL_isLane_46 : decode cL_isLane 46 = .ok (.if_icmp .ne 18, 3) := by decide +kernel
theorem dL_isLane_49 : decode cL_isLane 49 = .ok (.aload_n 0, 1) := by decide +kernel
theorem dL_isLane_50 : decode cL_isLane 50 = .ok (.iload 5, 2) := by decide +kernel
theorem dL_isLane_52 : decode cL_isLane 52 = .ok (.iconst 0, 1) := by decide +kernel
theorem dL_isLane_53 : decode cL_isLane 53 = .ok (.invokevirtual 44, 3) := by decide +kernel
theorem dL_isLane_56 : decode cL_isLane 56 = .ok (.iload_n 2, 1) := by decide +kernel
theorem dL_isLane_57 : decode cL_isLane 57 = .ok (.if_icmp .ne 7, 3) := by decide +kernel
theorem dL_isLane_60 : decode cL_isLane 60 = .ok (.iconst 1, 1) := by decide +kernel
theorem dL_isLane_61 : decode cL_isLane 61 = .ok (.goto 4, 3) := by decide +kernel
theorem dL_isLane_64 : decode cL_isLane 64 = .ok (.iconst 0, 1) := by decide +kernel
theorem dL_isLane_65 : decode cL_isLane 65 = .ok (.istore 6, 2) := by decide +kernel
theorem dL_isLane_67 : decode cL_isLane 67 = .ok (.iload 4, 2) := by decide +kernel
theorem dL_isLane_69 : decode cL_isLane 69 = .ok (.ifCond .ne 48, 3) := by decide +kernel
theorem dL_isLane_72 : decode cL_isLane 72 = .ok (.iload 6, 2) := by decide +kernel
theorem dL_isLane_74 : decode cL_isLane 74 = .ok (.ifCond .eq 47, 3) := by decide +kernel
theorem dL_isLane_77 : decode cL_isLane 77 = .ok (.aload_n 0, 1) := by decide +kernel
theorem dL_isLane_78 : decode cL_isLane 78 = .ok (.iload 5, 2) := by decide +kernel
theorem dL_isLane_80 : decode cL_isLane 80 = .ok (.bipush 6, 2) := by decide +kernel
theorem dL_isLane_82 : decode cL_isLane 82 = .ok (.invokevirtual 44, 3) := by decide +kernel
theorem dL_isLane_85 : decode cL_isLane 85 = .ok (.iconst 1, 1) := by decide +kernel
theorem dL_isLane_86 : decode cL_isLane 86 = .ok (.if_icmp .ne 35, 3) := by decide +kernel
theorem dL_isLane_89 : decode cL_isLane 89 = .ok (.iload_n 3, 1) := by decide +kernel
theorem dL_isLane_90 : decode cL_isLane 90 = .ok (.ifCond .ge 16, 3) := by decide +kernel
theorem dL_isLane_93 : decode cL_isLane 93 = .ok (.aload_n 0, 1) := by decide +kernel
theorem dL_isLane_94 : decode cL_isLane 94 = .ok (.iload 5, 2) := by decide +kernel
theorem dL_isLane_96 : decode cL_isLane 96 = .ok (.iconst 3, 1) := by decide +kernel
theorem dL_isLane_97 : decode cL_isLane 97 = .ok (.invokevirtual 44, 3) := by decide +kernel
theorem dL_isLane_100 : decode cL_isLane 100 = .ok (.ifCond .le 21, 3) := by decide +kernel
theorem dL_isLane_103 : decode cL_isLane 103 = .ok (.goto 14, 3) := by decide +kernel
theorem dL_isLane_106 : decode cL_isLane 106 = .ok (.aload_n 0, 1) := by decide +kernel
theorem dL_isLane_107 : decode cL_isLane 107 = .ok (.iload 5, 2) := by decide +kernel
theorem dL_isLane_109 : decode cL_isLane 109 = .ok (.iconst 3, 1) := by decide +kernel
theorem dL_isLane_110 : decode cL_isLane 110 = .ok (.invokevirtual 44, 3) := by decide +kernel
theorem dL_isLane_113 : decode cL_isLane 113 = .ok (.iload_n 3, 1) := by decide +kernel
theorem dL_isLane_114 : decode cL_isLane 114 = .ok (.if_icmp .ne 7, 3) := by decide +kernel
theorem dL_isLane_117 : decode cL_isLane 117 = .ok (.iconst 1, 1) := by decide +kernel
theorem dL_isLane_118 : decode cL_isLane 118 = .ok (.goto 4, 3) := by decide +kernel
theorem dL_isLane_121 : decode cL_isLane 121 = .ok (.iconst 0, 1) := by decide +kernel
theorem dL_isLane_122 : decode cL_isLane 122 = .ok (.istore 4, 2) := by decide +kernel
theorem dL_isLane_124 : decode cL_isLane 124 = .ok (.iinc 5 1, 3) := by decide +kernel
theorem dL_isLane_127 : decode cL_isLane 127 = .ok (.goto (-121), 3) := by decide +kernel
theorem dL_isLane_130 : decode cL_isLane 130 = .ok (.iload 4, 2) := by decide +kernel
theorem dL_isLane_132 : decode cL_isLane 132 = .ok (.ireturn, 1) := by decide +kernel
theorem dL_isClosedSo_0 : decode cL_isClosedSo 0 = .ok (.aload_n 0, 1) := by decide +kernel
theorem dL_isClosedSo_1 : decode cL_isClosedSo 1 = .ok (.iload_n 1, 1) := by decide +kernel
theorem dL_isClosedSo_2 : decode cL_isClosedSo 2 = .ok (.iconst 0, 1) := by decide +kernel
theorem dL_isClosedSo_3 : decode cL_isClosedSo 3 = .ok (.invokevirtual 74, 3) := by decide +kernel
theorem dL_isClosedSo_6 : decode cL_isClosedSo 6 = .ok (.istore_n 2, 1) := by decide +kernel
theorem dL_isClosedSo_7 : decode cL_isClosedSo 7 = .ok (.aload_n 0, 1) := by decide +kernel
theorem dL_isClosedSo_8 : decode cL_isClosedSo 8 = .ok (.invokestatic 77, 3) := by decide +kernel
theorem dL_isClosedSo_11 : decode cL_isClosedSo 11 = .ok (.istore_n 3, 1) := by decide +kernel
theorem dL_isClosedSo_12 : decode cL_isClosedSo 12 = .ok (.aload_n 0, 1) := by decide +kernel
theorem dL_isClosedSo_13 : decode cL_isClosedSo 13 = .ok (.iload_n 1, 1) := by decide +kernel
theorem dL_isClosedSo_14 : decode cL_isClosedSo 14 = .ok (.bipush 6, 2) := by decide +kernel
theorem dL_isClosedSo_16 : decode cL_isClosedSo 16 = .ok (.invokevirtual 44, 3) := by decide +kernel
theorem dL_isClosedSo_19 : decode cL_isClosedSo 19 = .ok (.ifCond .ne 31, 3) := by decide +kernel
theorem dL_isClosedSo_22 : decode cL_isClosedSo 22 = .ok (.iload_n 2, 1) := by decide +kernel
theorem dL_isClosedSo_23 : decode cL_isClosedSo 23 = .ok (.ifCond .ne 25, 3) := by decide +kernel
theorem dL_isClosedSo_26 : decode cL_isClosedSo 26 = .ok (.aload_n 0, 1) := by decide +kernel
theorem dL_isClosedSo_27 : decode cL_isClosedSo 27 = .ok (.iload_n 1, 1) := by decide +kernel
theorem dL_isClosedSo_28 : decode cL_isClosedSo 28 = .ok (.iconst 1, 1) := by decide +kernel
theorem dL_isClosedSo_29 : decode cL_isClosedSo 29 = .ok (.invokevirtual 74, 3) := by decide +kernel
theorem dL_isClosedSo_32 : decode cL_isClosedSo 32 = .ok (.ifCond .ne 16, 3) := by decide +kernel
theorem dL_isClosedSo_35 : decode cL_isClosedSo 35 = .ok (.aload_n 0, 1) := by decide +kernel
theorem dL_isClosedSo_36 : decode cL_isClosedSo 36 = .ok (.iload_n 1, 1) := by decide +kernel
theorem dL_isClosedSo_37 : decode cL_isClosedSo 37 = .ok (.iconst 2, 1) := by decide +kernel
theorem dL_isClosedSo_38 : decode cL_isClosedSo 38 = .ok (.invokevirtual 74, 3) := by decide +kernel
theorem dL_isClosedSo_41 : decode cL_isClosedSo 41 = .ok (.ifCond .ne 7, 3) := by decide +kernel
theorem dL_isClosedSo_44 : decode cL_isClosedSo 44 = .ok (.iconst 1, 1) := by decide +kernel
theorem dL_isClosedSo_45 : decode cL_isClosedSo 45 = .ok (.goto 4, 3) := by decide +kernel
theorem dL_isClosedSo_48 : decode cL_isClosedSo 48 = .ok (.iconst 0, 1) := by decide +kernel
theorem dL_isClosedSo_49 : decode cL_isClosedSo 49 = .ok (.ireturn, 1) := by decide +kernel
theorem dL_isClosedSo_50 : decode cL_isClosedSo 50 = .ok (.aload_n 0, 1) := by decide +kernel
theorem dL_isClosedSo_51 : decode cL_isClosedSo 51 = .ok (.iconst 1, 1) := by decide +kernel
theorem dL_isClosedSo_52 : decode cL_isClosedSo 52 = .ok (.invokevirtual 24, 3) := by decide +kernel
theorem dL_isClosedSo_55 : decode cL_isClosedSo 55 = .ok (.istore 4, 2) := by decide +kernel
theorem dL_isClosedSo_57 : decode cL_isClosedSo 57 = .ok (.aload_n 0, 1) := by decide +kernel
theorem dL_isClosedSo_58 : decode cL_isClosedSo 58 = .ok (.iload_n 1, 1) := by decide +kernel
theorem dL_isClosedSo_59 : decode cL_isClosedSo 59 = .ok (.iconst 1, 1) := by decide +kernel
theorem dL_isClosedSo_60 : decode cL_isClosedSo 60 = .ok (.invokevirtual 28, 3) := by decide +kernel
theorem dL_isClosedSo_63 : decode cL_isClosedSo 63 = .ok (.iload 4, 2) := by decide +kernel
theorem dL_isClosedSo_65 : decode cL_isClosedSo 65 = .ok (.iconst 1, 1) := by decide +kernel
theorem dL_isClosedSo_66 : decode cL_isClosedSo 66 = .ok (.isub, 1) := by decide +kernel
theorem dL_isClosedSo_67 : decode cL_isClosedSo 67 = .ok (.if_icmp .ne 17, 3) := by decide +kernel
theorem dL_isClosedSo_70 : decode cL_isClosedSo 70 = .ok (.iload_n 3, 1) := by decide +kernel
theorem dL_isClosedSo_71 : decode cL_isClosedSo 71 = .ok (.aload_n 0, 1) := by decide +kernel
theorem dL_isClosedSo_72 : decode cL_isClosedSo 72 = .ok (.invokestatic 77, 3) := by decide +kernel
theorem dL_isClosedSo_75 : decode cL_isClosedSo 75 = .ok (.isub, 1) := by decide +kernel
theorem dL_isClosedSo_76 : decode cL_isClosedSo 76 = .ok (.iload_n 2, 1) := by decide +kernel
theorem dL_isClosedSo_77 : decode cL_isClosedSo 77 = .ok (.if_icmp .gt 7, 3) := by decide +kernel
theorem dL_isClosedSo_80 : decode cL_isClosedSo 80 = .ok (.iconst 1, 1) := by decide +kernel
theorem dL_isClosedSo_81 : decode cL_isClosedSo 81 = .ok (.goto 4, 3) := by decide +kernel
theorem dL_isClosedSo_84 : decode cL_isClosedSo 84 = .ok (.iconst 0, 1) := by decide +kernel
theorem dL_isClosedSo_85 : decode cL_isClosedSo 85 = .ok (.istore 5, 2) := by decide +kernel
theorem dL_isClosedSo_87 : decode cL_isClosedSo 87 = .ok (.iload 5, 2) := by decide +kernel
theorem dL_isClosedSo_89 : decode cL_isClosedSo 89 = .ok (.ifCond .eq 32, 3) := by decide +kernel
theorem dL_isClosedSo_92 : decode cL_isClosedSo 92 = .ok (.aload_n 0, 1) := by decide +kernel
theorem dL_isClosedSo_93 : decode cL_isClosedSo 93 = .ok (.invokevirtual 81, 3) := by decide +kernel
theorem dL_isClosedSo_96 : decode cL_isClosedSo 96 = .ok (.ifCond .lt 25, 3) := by decide +kernel
theorem dL_isClosedSo_99 : decode cL_isClosedSo 99 = .ok (.aload_n 0, 1) := by decide +kernel
theorem dL_isClosedSo_100 : decode cL_isClosedSo 100 = .ok (.iconst 1, 1) := by decide +kernel
theorem dL_isClosedSo_101 : decode cL_isClosedSo 101 = .ok (.invokevirtual 24, 3) := by decide +kernel
theorem dL_isClosedSo_104 : decode cL_isClosedSo 104 = .ok (.iload 4, 2) := by decide +kernel
theorem dL_isClosedSo_106 : decode cL_isClosedSo 106 = .ok (.if_icmp .ne 15, 3) := by decide +kernel
theorem dL_isClosedSo_109 : decode cL_isClosedSo 109 = .ok (.aload_n 0, 1) := by decide +kernel
theorem dL_isClosedSo_110 : decode cL_isClosedSo 110 = .ok (.invokestatic 77, 3) := by decide +kernel
theorem dL_isClosedSo_113 : decode cL_isClosedSo 113 = .ok (.iload_n 3, 1) := by decide +kernel
theorem dL_isClosedSo_114 : decode cL_isClosedSo 114 = .ok (.if_icmp .ne 7, 3) := by decide +kernel
theorem dL_isClosedSo_117 : decode cL_isClosedSo 117 = .ok (.iconst 1, 1) := by decide +kernel
theorem dL_isClosedSo_118 : decode cL_isClosedSo 118 = .ok (.goto 4, 3) := by decide +kernel
theorem dL_isClosedSo_121 : decode cL_isClosedSo 121 = .ok (.iconst 0, 1) := by decide +kernel
theorem dL_isClosedSo_122 : decode cL_isClosedSo 122 = .ok (.ireturn, 1) := by decide +kernel
theorem dL_pairs_0 : decode cL_pairs 0 = .ok (.iconst 0, 1) := by decide +kernel
theorem dL_pairs_1 : decode cL_pairs 1 = .ok (.istore_n 1, 1) := by decide +kernel
theorem dL_pairs_2 : decode cL_pairs 2 = .ok (.iconst 0, 1) := by decide +kernel
theorem dL_pairs_3 : decode cL_pairs 3 = .ok (.istore_n 2, 1) := by decide +kernel
theorem dL_pairs_4 : decode cL_pairs 4 = .ok (.iload_n 2, 1) := by decide +kernel
theorem dL_pairs_5 : decode cL_pairs 5 = .ok (.aload_n 0, 1) := by decide +kernel
theorem dL_pairs_6 : decode cL_pairs 6 = .ok (.iconst 2, 1) := by decide +kernel
theorem dL_pairs_7 : decode cL_pairs 7 = .ok (.invokevirtual 24, 3) := by decide +kernel
theorem dL_pairs_10 : decode cL_pairs 10 = .ok (.if_icmp .ge 18, 3) := by decide +kernel
theorem dL_pairs_13 : decode cL_pairs 13 = .ok (.iload_n 1, 1) := by decide +kernel
theorem dL_pairs_14 : decode cL_pairs 14 = .ok (.aload_n 0, 1) := by decide +kernel
theorem dL_pairs_15 : decode cL_pairs 15 = .ok (.iload_n 2, 1) := by decide +kernel
theorem dL_pairs_16 : decode cL_pairs 16 = .ok (.iconst 3, 1) := by decide +kernel
theorem dL_pairs_17 : decode cL_pairs 17 = .ok (.invokevirtual 47, 3) := by decide +kernel
theorem dL_pairs_20 : decode cL_pairs 20 = .ok (.iadd, 1) := by decide +kernel
theorem dL_pairs_21 : decode cL_pairs 21 = .ok (.istore_n 1, 1) := by decide +kernel
theorem dL_pairs_22 : decode cL_pairs 22 = .ok (.iinc 2 1, 3) := by decide +kernel
theorem dL_pairs_25 : decode cL_pairs 25 = .ok (.goto (-21), 3) := by decide +kernel
theorem dL_pairs_28 : decode cL_pairs 28 = .ok (.iload_n 1, 1) := by decide +kernel
theorem dL_pairs_29 : decode cL_pairs 29 = .ok (.ireturn, 1) := by decide +kernel
theorem dL_law_0 : decode cL_law 0 = .ok (.new 15, 3) := by decide +kernel
theorem dL_law_3 : decode cL_law 3 = .ok (.dup, 1) := by decide +kernel
theorem dL_law_4 : decode cL_law 4 = .ok (.invokespecial 85, 3) := by decide +kernel
theorem dL_law_7 : decode cL_law 7 = .ok (.astore_n 1, 1) := by decide +kernel
theorem dL_law_8 : decode cL_law 8 = .ok (.new 15, 3) := by decide +kernel
theorem dL_law_11 : decode cL_law 11 = .ok (.dup, 1) := by decide +kernel
theorem dL_law_12 : decode cL_law 12 = .ok (.invokespecial 85, 3) := by decide +kernel
theorem dL_law_15 : decode cL_law 15 = .ok (.astore_n 2, 1) := by decide +kernel
theorem dL_law_16 : decode cL_law 16 = .ok (.iconst 0, 1) := by decide +kernel
theorem dL_law_17 : decode cL_law 17 = .ok (.istore_n 3, 1) := by decide +kernel
theorem dL_law_18 : decode cL_law 18 = .ok (.iload_n 3, 1) := by decide +kernel
theorem dL_law_19 : decode cL_law 19 = .ok (.bipush 44, 2) := by decide +kernel
theorem dL_law_21 : decode cL_law 21 = .ok (.if_icmp .ge 230, 3) := by decide +kernel
theorem dL_law_24 : decode cL_law 24 = .ok (.aload_n 0, 1) := by decide +kernel
theorem dL_law_25 : decode cL_law 25 = .ok (.iload_n 3, 1) := by decide +kernel
theorem dL_law_26 : decode cL_law 26 = .ok (.invokestatic 86, 3) := by decide +kernel
theorem dL_law_29 : decode cL_law 29 = .ok (.istore 4, 2) := by decide +kernel
theorem dL_law_31 : decode cL_law 31 = .ok (.aload_n 1, 1) := by decide +kernel
theorem dL_law_32 : decode cL_law 32 = .ok (.bipush 8, 2) := by decide +kernel
theorem dL_law_34 : decode cL_law 34 = .ok (.invokevirtual 24, 3) := by decide +kernel
theorem dL_law_37 : decode cL_law 37 = .ok (.istore 5, 2) := by decide +kernel
theorem dL_law_39 : decode cL_law 39 = .ok (.aload_n 1, 1) := by decide +kernel
theorem dL_law_40 : decode cL_law 40 = .ok (.iload 4, 2) := by decide +kernel
theorem dL_law_42 : decode cL_law 42 = .ok (.invokestatic 90, 3) := by decide +kernel
theorem dL_law_45 : decode cL_law 45 = .ok (.istore 6, 2) := by decide +kernel
theorem dL_law_47 : decode cL_law 47 = .ok (.iload 6, 2) := by decide +kernel
theorem dL_law_49 : decode cL_law 49 = .ok (.ifCond .ge 24, 3) := by decide +kernel
theorem dL_law_52 : decode cL_law 52 = .ok (.aload_n 1, 1) := by decide +kernel
theorem dL_law_53 : decode cL_law 53 = .ok (.aload_n 2, 1) := by decide +kernel
theorem dL_law_54 : decode cL_law 54 = .ok (.invokestatic 94, 3) := by decide +kernel
theorem dL_law_57 : decode cL_law 57 = .ok (.ifCond .eq 14, 3) := by decide +kernel
theorem dL_law_60 : decode cL_law 60 = .ok (.aload_n 1, 1) := by decide +kernel
theorem dL_law_61 : decode cL_law 61 = .ok (.bipush 8, 2) := by decide +kernel
theorem dL_law_63 : decode cL_law 63 = .ok (.invokevirtual 24, 3) := by decide +kernel
theorem dL_law_66 : decode cL_law 66 = .ok (.iload 5, 2) := by decide +kernel
theorem dL_law_68 : decode cL_law 68 = .ok (.if_icmp .eq 5, 3) := by decide +kernel
theorem dL_law_71 : decode cL_law 71 = .ok (.iconst 0, 1) := by decide +kernel
theorem dL_law_72 : decode cL_law 72 = .ok (.ireturn, 1) := by decide +kernel
theorem dL_law_73 : decode cL_law 73 = .ok (.iload 6, 2) := by decide +kernel
theorem dL_law_75 : decode cL_law 75 = .ok (.ifCond .lt 57, 3) := by decide +kernel
theorem dL_law_78 : decode cL_law 78 = .ok (.iload 4, 2) := by decide +kernel
theorem dL_law_80 : decode cL_law 80 = .ok (.bipush 9, 2) := by decide +kernel
theorem dL_law_82 : decode cL_law 82 = .ok (.ishr, 1) := by decide +kernel
theorem dL_law_83 : decode cL_law 83 = .ok (.iconst 1, 1) := by decide +kernel
theorem dL_law_84 : decode cL_law 84 = .ok (.iand, 1) := by decide +kernel
theorem dL_law_85 : decode cL_law 85 = .ok (.ifCond .ne 47, 3) := by decide +kernel
theorem dL_law_88 : decode cL_law 88 = .ok (.aload_n 1, 1) := by decide +kernel
theorem dL_law_89 : decode cL_law 89 = .ok (.invokevirtual 81, 3) := by decide +kernel
theorem dL_law_92 : decode cL_law 92 = .ok (.istore 7, 2) := by decide +kernel
theorem dL_law_94 : decode cL_law 94 = .ok (.iload 7, 2) := by decide +kernel
theorem dL_law_96 : decode cL_law 96 = .ok (.iload 5, 2) := by decide +kernel
theorem dL_law_98 : decode cL_law 98 = .ok (.iconst 4, 1) := by decide +kernel
theorem dL_law_99 : decode cL_law 99 = .ok (.if_icmp .ne 7, 3) := by decide +kernel
theorem dL_law_102 : decode cL_law 102 = .ok (.iconst 3, 1) := by decide +kernel
theorem dL_law_103 : decode cL_law 103 = .ok (.goto 5, 3) := by decide +kernel
theorem dL_law_106 : decode cL_law 106 = .ok (.iload 5, 2) := by decide +kernel
theorem dL_law_108 : decode cL_law 108 = .ok (.if_icmp .ne 22, 3) := by decide +kernel
theorem dL_law_111 : decode cL_law 111 = .ok (.aload_n 1, 1) := by decide +kernel
theorem dL_law_112 : decode cL_law 112 = .ok (.aload_n 2, 1) := by decide +kernel
theorem dL_law_113 : decode cL_law 113 = .ok (.invokestatic 94, 3) := by decide +kernel
theorem dL_law_116 : decode cL_law 116 = .ok (.ifCond .eq 14, 3) := by decide +kernel
theorem dL_law_119 : decode cL_law 119 = .ok (.aload_n 1, 1) := by decide +kernel
theorem dL_law_120 : decode cL_law 120 = .ok (.iload 4, 2) := by decide +kernel
theorem dL_law_122 : decode cL_law 122 = .ok (.invokestatic 90, 3) := by decide +kernel
theorem dL_law_125 : decode cL_law 125 = .ok (.iload 6, 2) := by decide +kernel
theorem dL_law_127 : decode cL_law 127 = .ok (.if_icmp .eq 5, 3) := by decide +kernel
theorem dL_law_130 : decode cL_law 130 = .ok (.iconst 0, 1) := by decide +kernel
theorem dL_law_131 : decode cL_law 131 = .ok (.ireturn, 1) := by decide +kernel
theorem dL_law_132 : decode cL_law 132 = .ok (.aload_n 2, 1) := by decide +kernel
theorem dL_law_133 : decode cL_law 133 = .ok (.iload 4, 2) := by decide +kernel
theorem dL_law_135 : decode cL_law 135 = .ok (.invokestatic 90, 3) := by decide +kernel
theorem dL_law_138 : decode cL_law 138 = .ok (.iload 6, 2) := by decide +kernel
theorem dL_law_140 : decode cL_law 140 = .ok (.if_icmp .ne 11, 3) := by decide +kernel
theorem dL_law_143 : decode cL_law 143 = .ok (.aload_n 1, 1) := by decide +kernel
theorem dL_law_144 : decode cL_law 144 = .ok (.aload_n 2, 1) := by decide +kernel
theorem dL_law_145 : decode cL_law 145 = .ok (.invokestatic 94, 3) := by decide +kernel
theorem dL_law_148 : decode cL_law 148 = .ok (.ifCond .ne 5, 3) := by decide +kernel
theorem dL_law_151 : decode cL_law 151 = .ok (.iconst 0, 1) := by decide +kernel
theorem dL_law_152 : decode cL_law 152 = .ok (.ireturn, 1) := by decide +kernel
theorem dL_law_153 : decode cL_law 153 = .ok (.iload_n 3, 1) := by decide +kernel
theorem dL_law_154 : decode cL_law 154 = .ok (.bipush 6, 2) := by decide +kernel
theorem dL_law_156 : decode cL_law 156 = .ok (.irem, 1) := by decide +kernel
theorem dL_law_157 : decode cL_law 157 = .ok (.iconst 5, 1) := by decide +kernel
theorem dL_law_158 : decode cL_law 158 = .ok (.if_icmp .ne 40, 3) := by decide +kernel
theorem dL_law_161 : decode cL_law 161 = .ok (.aload_n 1, 1) := by decide +kernel
theorem dL_law_162 : decode cL_law 162 = .ok (.invokestatic 98, 3) := by decide +kernel
theorem dL_law_165 : decode cL_law 165 = .ok (.ifCond .eq 31, 3) := by decide +kernel
theorem dL_law_168 : decode cL_law 168 = .ok (.aload_n 1, 1) := by decide +kernel
theorem dL_law_169 : decode cL_law 169 = .ok (.iconst 2, 1) := by decide +kernel
theorem dL_law_170 : decode cL_law 170 = .ok (.invokevirtual 24, 3) := by decide +kernel
theorem dL_law_173 : decode cL_law 173 = .ok (.ifCond .le 25, 3) := by decide +kernel
theorem dL_law_176 : decode cL_law 176 = .ok (.aload_n 1, 1) := by decide +kernel
theorem dL_law_177 : decode cL_law 177 = .ok (.iload 4, 2) := by decide +kernel
theorem dL_law_179 : decode cL_law 179 = .ok (.bipush 6, 2) := by decide +kernel
theorem dL_law_181 : decode cL_law 181 = .ok (.ishr, 1) := by decide +kernel
theorem dL_law_182 : decode cL_law 182 = .ok (.aload_n 1, 1) := by decide +kernel
theorem dL_law_183 : decode cL_law 183 = .ok (.iconst 2, 1) := by decide +kernel
theorem dL_law_184 : decode cL_law 184 = .ok (.invokevirtual 24, 3) := by decide +kernel
theorem dL_law_187 : decode cL_law 187 = .ok (.invokestatic 8, 3) := by decide +kernel
theorem dL_law_190 : decode cL_law 190 = .ok (.invokestatic 102, 3) := by decide +kernel
theorem dL_law_193 : decode cL_law 193 = .ok (.ifCond .ne 5, 3) := by decide +kernel
theorem dL_law_196 : decode cL_law 196 = .ok (.iconst 0, 1) := by decide +kernel
theorem dL_law_197 : decode cL_law 197 = .ok (.ireturn, 1) := by decide +kernel
theorem dL_law_198 : decode cL_law 198 = .ok (.iload_n 3, 1) := by decide +kernel
theorem dL_law_199 : decode cL_law 199 = .ok (.bipush 9, 2) := by decide +kernel
theorem dL_law_201 : decode cL_law 201 = .ok (.irem, 1) := by decide +kernel
theorem dL_law_202 : decode cL_law 202 = .ok (.bipush 8, 2) := by decide +kernel
theorem dL_law_204 : decode cL_law 204 = .ok (.if_icmp .ne 41, 3) := by decide +kernel
theorem dL_law_207 : decode cL_law 207 = .ok (.aload_n 1, 1) := by decide +kernel
theorem dL_law_208 : decode cL_law 208 = .ok (.iconst 0, 1) := by decide +kernel
theorem dL_law_209 : decode cL_law 209 = .ok (.invokevirtual 24, 3) := by decide +kernel
theorem dL_law_212 : decode cL_law 212 = .ok (.ifCond .le 33, 3) := by decide +kernel
theorem dL_law_215 : decode cL_law 215 = .ok (.aload_n 1, 1) := by decide +kernel
theorem dL_law_216 : decode cL_law 216 = .ok (.iload 4, 2) := by decide +kernel
theorem dL_law_218 : decode cL_law 218 = .ok (.bipush 7, 2) := by decide +kernel
theorem dL_law_220 : decode cL_law 220 = .ok (.ishr, 1) := by decide +kernel
theorem dL_law_221 : decode cL_law 221 = .ok (.aload_n 1, 1) := by decide +kernel
theorem dL_law_222 : decode cL_law 222 = .ok (.iconst 0, 1) := by decide +kernel
theorem dL_law_223 : decode cL_law 223 = .ok (.invokevirtual 24, 3) := by decide +kernel
theorem dL_law_226 : decode cL_law 226 = .ok (.invokestatic 8, 3) := by decide +kernel
theorem dL_law_229 : decode cL_law 229 = .ok (.invokestatic 106, 3) := by decide +kernel
theorem dL_law_232 : decode cL_law 232 = .ok (.ifCond .eq 11, 3) := by decide +kernel
theorem dL_law_235 : decode cL_law 235 = .ok (.aload_n 1, 1) := by decide +kernel
theorem dL_law_236 : decode cL_law 236 = .ok (.aload_n 2, 1) := by decide +kernel
theorem dL_law_237 : decode cL_law 237 = .ok (.invokestatic 94, 3) := by decide +kernel
theorem dL_law_240 : decode cL_law 240 = .ok (.ifCond .ne 5, 3) := by decide +kernel
theorem dL_law_243 : decode cL_law 243 = .ok (.iconst 0, 1) := by decide +kernel
theorem dL_law_244 : decode cL_law 244 = .ok (.ireturn, 1) := by decide +kernel
theorem dL_law_245 : decode cL_law 245 = .ok (.iinc 3 1, 3) := by decide +kernel
theorem dL_law_248 : decode cL_law 248 = .ok (.goto (-230), 3) := by decide +kernel
theorem dL_law_251 : decode cL_law 251 = .ok (.aload_n 1, 1) := by decide +kernel
theorem dL_law_252 : decode cL_law 252 = .ok (.invokestatic 98, 3) := by decide +kernel
theorem dL_law_255 : decode cL_law 255 = .ok (.ireturn, 1) := by decide +kernel
