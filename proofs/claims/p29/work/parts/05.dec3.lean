theorem dL_cell_0 : decode cL_cell 0 = .ok (.iload_n 1, 1) := by decide +kernel
theorem dL_cell_1 : decode cL_cell 1 = .ok (.aload_n 0, 1) := by decide +kernel
theorem dL_cell_2 : decode cL_cell 2 = .ok (.arraylength, 1) := by decide +kernel
theorem dL_cell_3 : decode cL_cell 3 = .ok (.if_icmp .ge 9, 3) := by decide +kernel
theorem dL_cell_6 : decode cL_cell 6 = .ok (.aload_n 0, 1) := by decide +kernel
theorem dL_cell_7 : decode cL_cell 7 = .ok (.iload_n 1, 1) := by decide +kernel
theorem dL_cell_8 : decode cL_cell 8 = .ok (.iaload, 1) := by decide +kernel
theorem dL_cell_9 : decode cL_cell 9 = .ok (.goto 12, 3) := by decide +kernel
theorem dL_cell_12 : decode cL_cell 12 = .ok (.ldc 7, 2) := by decide +kernel
theorem dL_cell_14 : decode cL_cell 14 = .ok (.iload_n 1, 1) := by decide +kernel
theorem dL_cell_15 : decode cL_cell 15 = .ok (.iconst 5, 1) := by decide +kernel
theorem dL_cell_16 : decode cL_cell 16 = .ok (.iadd, 1) := by decide +kernel
theorem dL_cell_17 : decode cL_cell 17 = .ok (.imul, 1) := by decide +kernel
theorem dL_cell_18 : decode cL_cell 18 = .ok (.ldc 8, 2) := by decide +kernel
theorem dL_cell_20 : decode cL_cell 20 = .ok (.iadd, 1) := by decide +kernel
theorem dL_cell_21 : decode cL_cell 21 = .ok (.ireturn, 1) := by decide +kernel
theorem dL_low_0 : decode cL_low 0 = .ok (.iload_n 0, 1) := by decide +kernel
theorem dL_low_1 : decode cL_low 1 = .ok (.ldc 9, 2) := by decide +kernel
theorem dL_low_3 : decode cL_low 3 = .ok (.iand, 1) := by decide +kernel
theorem dL_low_4 : decode cL_low 4 = .ok (.iload_n 1, 1) := by decide +kernel
theorem dL_low_5 : decode cL_low 5 = .ok (.irem, 1) := by decide +kernel
theorem dL_low_6 : decode cL_low 6 = .ok (.ireturn, 1) := by decide +kernel
theorem dL_arePurses_0 : decode cL_arePurses 0 = .ok (.iconst 4, 1) := by decide +kernel
theorem dL_arePurses_1 : decode cL_arePurses 1 = .ok (.newarray .int, 2) := by decide +kernel
theorem dL_arePurses_3 : decode cL_arePurses 3 = .ok (.astore_n 1, 1) := by decide +kernel
theorem dL_arePurses_4 : decode cL_arePurses 4 = .ok (.iconst 0, 1) := by decide +kernel
theorem dL_arePurses_5 : decode cL_arePurses 5 = .ok (.istore_n 2, 1) := by decide +kernel
theorem dL_arePurses_6 : decode cL_arePurses 6 = .ok (.iconst 0, 1) := by decide +kernel
theorem dL_arePurses_7 : decode cL_arePurses 7 = .ok (.istore_n 3, 1) := by decide +kernel
theorem dL_arePurses_8 : decode cL_arePurses 8 = .ok (.iconst 0, 1) := by decide +kernel
theorem dL_arePurses_9 : decode cL_arePurses 9 = .ok (.istore 4, 2) := by decide +kernel
theorem dL_arePurses_11 : decode cL_arePurses 11 = .ok (.aload_n 0, 1) := by decide +kernel
theorem dL_arePurses_12 : decode cL_arePurses 12 = .ok (.invokevirtual 10, 3) := by decide +kernel
theorem dL_arePurses_15 : decode cL_arePurses 15 = .ok (.istore 5, 2) := by decide +kernel
theorem dL_arePurses_17 : decode cL_arePurses 17 = .ok (.iconst 0, 1) := by decide +kernel
theorem dL_arePurses_18 : decode cL_arePurses 18 = .ok (.istore 6, 2) := by decide +kernel
theorem dL_arePurses_20 : decode cL_arePurses 20 = .ok (.aload_n 0, 1) := by decide +kernel
theorem dL_arePurses_21 : decode cL_arePurses 21 = .ok (.iconst 0, 1) := by decide +kernel
theorem dL_arePurses_22 : decode cL_arePurses 22 = .ok (.invokevirtual 16, 3) := by decide +kernel
theorem dL_arePurses_25 : decode cL_arePurses 25 = .ok (.istore 7, 2) := by decide +kernel
theorem dL_arePurses_27 : decode cL_arePurses 27 = .ok (.iconst 0, 1) := by decide +kernel
theorem dL_arePurses_28 : decode cL_arePurses 28 = .ok (.istore 8, 2) := by decide +kernel
theorem dL_arePurses_30 : decode cL_arePurses 30 = .ok (.iload 8, 2) := by decide +kernel
theorem dL_arePurses_32 : decode cL_arePurses 32 = .ok (.bipush 8, 2) := by decide +kernel
theorem dL_arePurses_34 : decode cL_arePurses 34 = .ok (.if_icmp .ge 402, 3) := by decide +kernel
theorem dL_arePurses_37 : decode cL_arePurses 37 = .ok (.iconst 0, 1) := by decide +kernel
theorem dL_arePurses_38 : decode cL_arePurses 38 = .ok (.istore 9, 2) := by decide +kernel
theorem dL_arePurses_40 : decode cL_arePurses 40 = .ok (.iconst 0, 1) := by decide +kernel
theorem dL_arePurses_41 : decode cL_arePurses 41 = .ok (.istore 10, 2) := by decide +kernel
theorem dL_arePurses_43 : decode cL_arePurses 43 = .ok (.aload_n 0, 1) := by decide +kernel
theorem dL_arePurses_44 : decode cL_arePurses 44 = .ok (.iload 8, 2) := by decide +kernel
theorem dL_arePurses_46 : decode cL_arePurses 46 = .ok (.iconst 2, 1) := by decide +kernel
theorem dL_arePurses_47 : decode cL_arePurses 47 = .ok (.invokevirtual 20, 3) := by decide +kernel
theorem dL_arePurses_50 : decode cL_arePurses 50 = .ok (.istore 11, 2) := by decide +kernel
theorem dL_arePurses_52 : decode cL_arePurses 52 = .ok (.iconst 0, 1) := by decide +kernel
theorem dL_arePurses_53 : decode cL_arePurses 53 = .ok (.istore 12, 2) := by decide +kernel
theorem dL_arePurses_55 : decode cL_arePurses 55 = .ok (.iload 12, 2) := by decide +kernel
theorem dL_arePurses_57 : decode cL_arePurses 57 = .ok (.iconst 4, 1) := by decide +kernel
theorem dL_arePurses_58 : decode cL_arePurses 58 = .ok (.if_icmp .ge 37, 3) := by decide +kernel
theorem dL_arePurses_61 : decode cL_arePurses 61 = .ok (.aload_n 1, 1) := by decide +kernel
theorem dL_arePurses_62 : decode cL_arePurses 62 = .ok (.iload 12, 2) := by decide +kernel
theorem dL_arePurses_64 : decode cL_arePurses 64 = .ok (.dup2, 1) := by decide +kernel
theorem dL_arePurses_65 : decode cL_arePurses 65 = .ok (.iaload, 1) := by decide +kernel
theorem dL_arePurses_66 : decode cL_arePurses 66 = .ok (.aload_n 0, 1) := by decide +kernel
theorem dL_arePurses_67 : decode cL_arePurses 67 = .ok (.iload 8, 2) := by decide +kernel
theorem dL_arePurses_69 : decode cL_arePurses 69 = .ok (.iload 12, 2) := by decide +kernel
theorem dL_arePurses_71 : decode cL_arePurses 71 = .ok (.invokevirtual 24, 3) := by decide +kernel
theorem dL_arePurses_74 : decode cL_arePurses 74 = .ok (.iadd, 1) := by decide +kernel
theorem dL_arePurses_75 : decode cL_arePurses 75 = .ok (.iastore, 1) := by decide +kernel
theorem dL_arePurses_76 : decode cL_arePurses 76 = .ok (.aload_n 0, 1) := by decide +kernel
theorem dL_arePurses_77 : decode cL_arePurses 77 = .ok (.iload 8, 2) := by decide +kernel
theorem dL_arePurses_79 : decode cL_arePurses 79 = .ok (.iload 12, 2) := by decide +kernel
theorem dL_arePurses_81 : decode cL_arePurses 81 = .ok (.invokevirtual 24, 3) := by decide +kernel
theorem dL_arePurses_84 : decode cL_arePurses 84 = .ok (.ifCond .ge 5, 3) := by decide +kernel
theorem dL_arePurses_87 : decode cL_arePurses 87 = .ok (.iconst 0, 1) := by decide +kernel
theorem dL_arePurses_88 : decode cL_arePurses 88 = .ok (.ireturn, 1) := by decide +kernel
theorem dL_arePurses_89 : decode cL_arePurses 89 = .ok (.iinc 12 1, 3) := by decide +kernel
theorem dL_arePurses_92 : decode cL_arePurses 92 = .ok (.goto (-37), 3) := by decide +kernel
theorem dL_arePurses_95 : decode cL_arePurses 95 = .ok (.iconst 0, 1) := by decide +kernel
theorem dL_arePurses_96 : decode cL_arePurses 96 = .ok (.istore 12, 2) := by decide +kernel
theorem dL_arePurses_98 : decode cL_arePurses 98 = .ok (.iload 12, 2) := by decide +kernel
theorem dL_arePurses_100 : decode cL_arePurses 100 = .ok (.bipush 8, 2) := by decide +kernel
theorem dL_arePurses_102 : decode cL_arePurses 102 = .ok (.if_icmp .ge 35, 3) := by decide +kernel
theorem dL_arePurses_105 : decode cL_arePurses 105 = .ok (.iload 9, 2) := by decide +kernel
theorem dL_arePurses_107 : decode cL_arePurses 107 = .ok (.aload_n 0, 1) := by decide +kernel
theorem dL_arePurses_108 : decode cL_arePurses 108 = .ok (.iload 8, 2) := by decide +kernel
theorem dL_arePurses_110 : decode cL_arePurses 110 = .ok (.iload 12, 2) := by decide +kernel
theorem dL_arePurses_112 : decode cL_arePurses 112 = .ok (.invokevirtual 27, 3) := by decide +kernel
theorem dL_arePurses_115 : decode cL_arePurses 115 = .ok (.iadd, 1) := by decide +kernel
theorem dL_arePurses_116 : decode cL_arePurses 116 = .ok (.istore 9, 2) := by decide +kernel
theorem dL_arePurses_118 : decode cL_arePurses 118 = .ok (.iload 10, 2) := by decide +kernel
theorem dL_arePurses_120 : decode cL_arePurses 120 = .ok (.aload_n 0, 1) := by decide +kernel
theorem dL_arePurses_121 : decode cL_arePurses 121 = .ok (.iload 12, 2) := by decide +kernel
theorem dL_arePurses_123 : decode cL_arePurses 123 = .ok (.iload 8, 2) := by decide +kernel
theorem dL_arePurses_125 : decode cL_arePurses 125 = .ok (.invokevirtual 27, 3) := by decide +kernel
theorem dL_arePurses_128 : decode cL_arePurses 128 = .ok (.iadd, 1) := by decide +kernel
theorem dL_arePurses_129 : decode cL_arePurses 129 = .ok (.istore 10, 2) := by decide +kernel
theorem dL_arePurses_131 : decode cL_arePurses 131 = .ok (.iinc 12 1, 3) := by decide +kernel
theorem dL_arePurses_134 : decode cL_arePurses 134 = .ok (.goto (-36), 3) := by decide +kernel
theorem dL_arePurses_137 : decode cL_arePurses 137 = .ok (.iload_n 2, 1) := by decide +kernel
theorem dL_arePurses_138 : decode cL_arePurses 138 = .ok (.aload_n 0, 1) := by decide +kernel
theorem dL_arePurses_139 : decode cL_arePurses 139 = .ok (.iload 8, 2) := by decide +kernel
theorem dL_arePurses_141 : decode cL_arePurses 141 = .ok (.iconst 0, 1) := by decide +kernel
theorem dL_arePurses_142 : decode cL_arePurses 142 = .ok (.invokevirtual 20, 3) := by decide +kernel
theorem dL_arePurses_145 : decode cL_arePurses 145 = .ok (.iadd, 1) := by decide +kernel
theorem dL_arePurses_146 : decode cL_arePurses 146 = .ok (.istore_n 2, 1) := by decide +kernel
theorem dL_arePurses_147 : decode cL_arePurses 147 = .ok (.iload_n 3, 1) := by decide +kernel
theorem dL_arePurses_148 : decode cL_arePurses 148 = .ok (.aload_n 0, 1) := by decide +kernel
theorem dL_arePurses_149 : decode cL_arePurses 149 = .ok (.iload 8, 2) := by decide +kernel
theorem dL_arePurses_151 : decode cL_arePurses 151 = .ok (.iconst 3, 1) := by decide +kernel
theorem dL_arePurses_152 : decode cL_arePurses 152 = .ok (.invokevirtual 20, 3) := by decide +kernel
theorem dL_arePurses_155 : decode cL_arePurses 155 = .ok (.iadd, 1) := by decide +kernel
theorem dL_arePurses_156 : decode cL_arePurses 156 = .ok (.istore_n 3, 1) := by decide +kernel
theorem dL_arePurses_157 : decode cL_arePurses 157 = .ok (.iload 4, 2) := by decide +kernel
theorem dL_arePurses_159 : decode cL_arePurses 159 = .ok (.aload_n 0, 1) := by decide +kernel
theorem dL_arePurses_160 : decode cL_arePurses 160 = .ok (.iload 8, 2) := by decide +kernel
theorem dL_arePurses_162 : decode cL_arePurses 162 = .ok (.iconst 4, 1) := by decide +kernel
theorem dL_arePurses_163 : decode cL_arePurses 163 = .ok (.invokevirtual 20, 3) := by decide +kernel
theorem dL_arePurses_166 : decode cL_arePurses 166 = .ok (.iadd, 1) := by decide +kernel
theorem dL_arePurses_167 : decode cL_arePurses 167 = .ok (.istore 4, 2) := by decide +kernel
theorem dL_arePurses_169 : decode cL_arePurses 169 = .ok (.iload 6, 2) := by decide +kernel
theorem dL_arePurses_171 : decode cL_arePurses 171 = .ok (.iconst 1, 1) := by decide +kernel
theorem dL_arePurses_172 : decode cL_arePurses 172 = .ok (.aload_n 0, 1) := by decide +kernel
theorem dL_arePurses_173 : decode cL_arePurses 173 = .ok (.iload 8, 2) := by decide +kernel
theorem dL_arePurses_175 : decode cL_arePurses 175 = .ok (.iconst 1, 1) := by decide +kernel
theorem dL_arePurses_176 : decode cL_arePurses 176 = .ok (.invokevirtual 20, 3) := by decide +kernel
theorem dL_arePurses_179 : decode cL_arePurses 179 = .ok (.ishl, 1) := by decide +kernel
theorem dL_arePurses_180 : decode cL_arePurses 180 = .ok (.ior, 1) := by decide +kernel
theorem dL_arePurses_181 : decode cL_arePurses 181 = .ok (.istore 6, 2) := by decide +kernel
theorem dL_arePurses_183 : decode cL_arePurses 183 = .ok (.iload 9, 2) := by decide +kernel
theorem dL_arePurses_185 : decode cL_arePurses 185 = .ok (.aload_n 0, 1) := by decide +kernel
theorem dL_arePurses_186 : decode cL_arePurses 186 = .ok (.iload 8, 2) := by decide +kernel
theorem dL_arePurses_188 : decode cL_arePurses 188 = .ok (.iconst 3, 1) := by decide +kernel
theorem dL_arePurses_189 : decode cL_arePurses 189 = .ok (.invokevirtual 20, 3) := by decide +kernel
theorem dL_arePurses_192 : decode cL_arePurses 192 = .ok (.if_icmp .ne 124, 3) := by decide +kernel
theorem dL_arePurses_195 : decode cL_arePurses 195 = .ok (.iload 10, 2) := by decide +kernel
theorem dL_arePurses_197 : decode cL_arePurses 197 = .ok (.aload_n 0, 1) := by decide +kernel
theorem dL_arePurses_198 : decode cL_arePurses 198 = .ok (.iload 8, 2) := by decide +kernel
theorem dL_arePurses_200 : decode cL_arePurses 200 = .ok (.iconst 4, 1) := by decide +kernel
theorem dL_arePurses_201 : decode cL_arePurses 201 = .ok (.invokevirtual 20, 3) := by decide +kernel
theorem dL_arePurses_204 : decode cL_arePurses 204 = .ok (.if_icmp .ne 112, 3) := by decide +kernel
theorem dL_arePurses_207 : decode cL_arePurses 207 = .ok (.aload_n 0, 1) := by decide +kernel
theorem dL_arePurses_208 : decode cL_arePurses 208 = .ok (.iload 8, 2) := by decide +kernel
theorem dL_arePurses_210 : decode cL_arePurses 210 = .ok (.iload 8, 2) := by decide +kernel
theorem dL_arePurses_212 : decode cL_arePurses 212 = .ok (.invokevirtual 27, 3) := by decide +kernel
theorem dL_arePurses_215 : decode cL_arePurses 215 = .ok (.ifCond .ne 101, 3) := by decide +kernel
theorem dL_arePurses_218 : decode cL_arePurses 218 = .ok (.iload 11, 2) := by decide +kernel
theorem dL_arePurses_220 : decode cL_arePurses 220 = .ok (.iconst 1, 1) := by decide +kernel
theorem dL_arePurses_221 : decode cL_arePurses 221 = .ok (.if_icmp .lt 95, 3) := by decide +kernel
theorem dL_arePurses_224 : decode cL_arePurses 224 = .ok (.iload 11, 2) := by decide +kernel
theorem dL_arePurses_226 : decode cL_arePurses 226 = .ok (.bipush 8, 2) := by decide +kernel
theorem dL_arePurses_228 : decode cL_arePurses 228 = .ok (.if_icmp .gt 88, 3) := by decide +kernel
theorem dL_arePurses_231 : decode cL_arePurses 231 = .ok (.aload_n 0, 1) := by decide +kernel
theorem dL_arePurses_232 : decode cL_arePurses 232 = .ok (.iload 8, 2) := by decide +kernel
theorem dL_arePurses_234 : decode cL_arePurses 234 = .ok (.iload 11, 2) := by decide +kernel
theorem dL_arePurses_236 : decode cL_arePurses 236 = .ok (.iconst 0, 1) := by decide +kernel
theorem dL_arePurses_237 : decode cL_arePurses 237 = .ok (.invokevirtual 30, 3) := by decide +kernel
theorem dL_arePurses_240 : decode cL_arePurses 240 = .ok (.iload 8, 2) := by decide +kernel
theorem dL_arePurses_242 : decode cL_arePurses 242 = .ok (.if_icmp .ne 74, 3) := by decide +kernel
theorem dL_arePurses_245 : decode cL_arePurses 245 = .ok (.aload_n 0, 1) := by decide +kernel
theorem dL_arePurses_246 : decode cL_arePurses 246 = .ok (.iload 8, 2) := by decide +kernel
theorem dL_arePurses_248 : decode cL_arePurses 248 = .ok (.iconst 0, 1) := by decide +kernel
theorem dL_arePurses_249 : decode cL_arePurses 249 = .ok (.iconst 1, 1) := by decide +kernel
theorem dL_arePurses_250 : decode cL_arePurses 250 = .ok (.invokevirtual 30, 3) := by decide +kernel
theorem dL_arePurses_253 : decode cL_arePurses 253 = .ok (.iload 8, 2) := by decide +kernel
theorem dL_arePurses_255 : decode cL_arePurses 255 = .ok (.if_icmp .ne 61, 3) := by decide +kernel
theorem dL_arePurses_258 : decode cL_arePurses 258 = .ok (.aload_n 0, 1) := by decide +kernel
theorem dL_arePurses_259 : decode cL_arePurses 259 = .ok (.iload 8, 2) := by decide +kernel
theorem dL_arePurses_261 : decode cL_arePurses 261 = .ok (.iconst 1, 1) := by decide +kernel
theorem dL_arePurses_262 : decode cL_arePurses 262 = .ok (.iconst 0, 1) := by decide +kernel
theorem dL_arePurses_263 : decode cL_arePurses 263 = .ok (.invokevirtual 30, 3) := by decide +kernel
theorem dL_arePurses_266 : decode cL_arePurses 266 = .ok (.aload_n 0, 1) := by decide +kernel
theorem dL_arePurses_267 : decode cL_arePurses 267 = .ok (.iload 8, 2) := by decide +kernel
theorem dL_arePurses_269 : decode cL_arePurses 269 = .ok (.iconst 1, 1) := by decide +kernel
theorem dL_arePurses_270 : decode cL_arePurses 270 = .ok (.invokevirtual 20, 3) := by decide +kernel
theorem dL_arePurses_273 : decode cL_arePurses 273 = .ok (.if_icmp .ne 43, 3) := by decide +kernel
theorem dL_arePurses_276 : decode cL_arePurses 276 = .ok (.aload_n 0, 1) := by decide +kernel
theorem dL_arePurses_277 : decode cL_arePurses 277 = .ok (.iload 8, 2) := by decide +kernel
theorem dL_arePurses_279 : decode cL_arePurses 279 = .ok (.iload 7, 2) := by decide +kernel
theorem dL_arePurses_281 : decode cL_arePurses 281 = .ok (.iconst 0, 1) := by decide +kernel
theorem dL_arePurses_282 : decode cL_arePurses 282 = .ok (.invokevirtual 30, 3) := by decide +kernel
theorem dL_arePurses_285 : decode cL_arePurses 285 = .ok (.iload 8, 2) := by decide +kernel
theorem dL_arePurses_287 : decode cL_arePurses 287 = .ok (.if_icmp .ne 29, 3) := by decide +kernel
theorem dL_arePurses_290 : decode cL_arePurses 290 = .ok (.aload_n 0, 1) := by decide +kernel
theorem dL_arePurses_291 : decode cL_arePurses 291 = .ok (.iload 8, 2) := by decide +kernel
theorem dL_arePurses_293 : decode cL_arePurses 293 = .ok (.iload 7, 2) := by decide +kernel
theorem dL_arePurses_295 : decode cL_arePurses 295 = .ok (.iconst 1, 1) := by decide +kernel
theorem dL_arePurses_296 : decode cL_arePurses 296 = .ok (.invokevirtual 30, 3) := by decide +kernel
theorem dL_arePurses_299 : decode cL_arePurses 299 = .ok (.iload 8, 2) := by decide +kernel
theorem dL_arePurses_301 : decode cL_arePurses 301 = .ok (.if_icmp .ne 15, 3) := by decide +kernel
theorem dL_arePurses_304 : decode cL_arePurses 304 = .ok (.iload 7, 2) := by decide +kernel
theorem dL_arePurses_306 : decode cL_arePurses 306 = .ok (.iload 11, 2) := by decide +kernel
theorem dL_arePurses_308 : decode cL_arePurses 308 = .ok (.irem, 1) := by decide +kernel
theorem dL_arePurses_309 : decode cL_arePurses 309 = .ok (.ifCond .ne 7, 3) := by decide +kernel
theorem dL_arePurses_312 : decode cL_arePurses 312 = .ok (.iconst 1, 1) := by decide +kernel
theorem dL_arePurses_313 : decode cL_arePurses 313 = .ok (.goto 4, 3) := by decide +kernel
theorem dL_arePurses_316 : decode cL_arePurses 316 = .ok (.iconst 0, 1) := by decide +kernel
theorem dL_arePurses_317 : decode cL_arePurses 317 = .ok (.istore 12, 2) := by decide +kernel
theorem dL_arePurses_319 : decode cL_arePurses 319 = .ok (.iconst 1, 1) := by decide +kernel
theorem dL_arePurses_320 : decode cL_arePurses 320 = .ok (.istore 13, 2) := by decide +kernel
theorem dL_arePurses_322 : decode cL_arePurses 322 = .ok (.iload 13, 2) := by decide +kernel
theorem dL_arePurses_324 : decode cL_arePurses 324 = .ok (.iload 11, 2) := by decide +kernel
theorem dL_arePurses_326 : decode cL_arePurses 326 = .ok (.if_icmp .ge 56, 3) := by decide +kernel
theorem dL_arePurses_329 : decode cL_arePurses 329 = .ok (.iload 12, 2) := by decide +kernel
theorem dL_arePurses_331 : decode cL_arePurses 331 = .ok (.ifCond .eq 51, 3) := by decide +kernel
theorem dL_arePurses_334 : decode cL_arePurses 334 = .ok (.aload_n 0, 1) := by decide +kernel
theorem dL_arePurses_335 : decode cL_arePurses 335 = .ok (.iload 8, 2) := by decide +kernel
theorem dL_arePurses_337 : decode cL_arePurses 337 = .ok (.iload 13, 2) := by decide +kernel
theorem dL_arePurses_339 : decode cL_arePurses 339 = .ok (.iconst 0, 1) := by decide +kernel
theorem dL_arePurses_340 : decode cL_arePurses 340 = .ok (.invokevirtual 30, 3) := by decide +kernel
theorem dL_arePurses_343 : decode cL_arePurses 343 = .ok (.iload 8, 2) := by decide +kernel
theorem dL_arePurses_345 : decode cL_arePurses 345 = .ok (.if_icmp .eq 28, 3) := by decide +kernel
theorem dL_arePurses_348 : decode cL_arePurses 348 = .ok (.aload_n 0, 1) := by decide +kernel
theorem dL_arePurses_349 : decode cL_arePurses 349 = .ok (.iload 8, 2) := by decide +kernel
theorem dL_arePurses_351 : decode cL_arePurses 351 = .ok (.iload 13, 2) := by decide +kernel
theorem dL_arePurses_353 : decode cL_arePurses 353 = .ok (.iconst 1, 1) := by decide +kernel
theorem dL_arePurses_354 : decode cL_arePurses 354 = .ok (.invokevirtual 30, 3) := by decide +kernel
theorem dL_arePurses_357 : decode cL_arePurses 357 = .ok (.aload_n 0, 1) := by decide +kernel
theorem dL_arePurses_358 : decode cL_arePurses 358 = .ok (.iload 8, 2) := by decide +kernel
theorem dL_arePurses_360 : decode cL_arePurses 360 = .ok (.iload 13, 2) := by decide +kernel
theorem dL_arePurses_362 : decode cL_arePurses 362 = .ok (.iconst 0, 1) := by decide +kernel
theorem dL_arePurses_363 : decode cL_arePurses 363 = .ok (.invokevirtual 30, 3) := by decide +kernel
theorem dL_arePurses_366 : decode cL_arePurses 366 = .ok (.if_icmp .ne 7, 3) := by decide +kernel
theorem dL_arePurses_369 : decode cL_arePurses 369 = .ok (.iconst 1, 1) := by decide +kernel
theorem dL_arePurses_370 : decode cL_arePurses 370 = .ok (.goto 4, 3) := by decide +kernel
theorem dL_arePurses_373 : decode cL_arePurses 373 = .ok (.iconst 0, 1) := by decide +kernel
theorem dL_arePurses_374 : decode cL_arePurses 374 = .ok (.istore 12, 2) := by decide +kernel
theorem dL_arePurses_376 : decode cL_arePurses 376 = .ok (.iinc 13 1, 3) := by decide +kernel
theorem dL_arePurses_379 : decode cL_arePurses 379 = .ok (.goto (-57), 3) := by decide +kernel
theorem dL_arePurses_382 : decode cL_arePurses 382 = .ok (.iload 12, 2) := by decide +kernel
theorem dL_arePurses_384 : decode cL_arePurses 384 = .ok (.ifCond .eq 44, 3) := by decide +kernel
theorem dL_arePurses_387 : decode cL_arePurses 387 = .ok (.aload_n 0, 1) := by decide +kernel
theorem dL_arePurses_388 : decode cL_arePurses 388 = .ok (.iload 8, 2) := by decide +kernel
theorem dL_arePurses_390 : decode cL_arePurses 390 = .ok (.iconst 0, 1) := by decide +kernel
theorem dL_arePurses_391 : decode cL_arePurses 391 = .ok (.invokevirtual 20, 3) := by decide +kernel
theorem dL_arePurses_394 : decode cL_arePurses 394 = .ok (.aload_n 0, 1) := by decide +kernel
theorem dL_arePurses_395 : decode cL_arePurses 395 = .ok (.iload 5, 2) := by decide +kernel
theorem dL_arePurses_397 : decode cL_arePurses 397 = .ok (.iconst 0, 1) := by decide +kernel
theorem dL_arePurses_398 : decode cL_arePurses 398 = .ok (.invokevirtual 20, 3) := by decide +kernel
theorem dL_arePurses_401 : decode cL_arePurses 401 = .ok (.if_icmp .gt 27, 3) := by decide +kernel
theorem dL_arePurses_404 : decode cL_arePurses 404 = .ok (.iload 8, 2) := by decide +kernel
theorem dL_arePurses_406 : decode cL_arePurses 406 = .ok (.iload 5, 2) := by decide +kernel
theorem dL_arePurses_408 : decode cL_arePurses 408 = .ok (.if_icmp .ge 22, 3) := by decide +kernel
theorem dL_arePurses_411 : decode cL_arePurses 411 = .ok (.aload_n 0, 1) := by decide +kernel
theorem dL_arePurses_412 : decode cL_arePurses 412 = .ok (.iload 8, 2) := by decide +kernel
theorem dL_arePurses_414 : decode cL_arePurses 414 = .ok (.iconst 0, 1) := by decide +kernel
theorem dL_arePurses_415 : decode cL_arePurses 415 = .ok (.invokevirtual 20, 3) := by decide +kernel
theorem dL_arePurses_418 : decode cL_arePurses 418 = .ok (.aload_n 0, 1) := by decide +kernel
theorem dL_arePurses_419 : decode cL_arePurses 419 = .ok (.iload 5, 2) := by decide +kernel
theorem dL_arePurses_421 : decode cL_arePurses 421 = .ok (.iconst 0, 1) := by decide +kernel
theorem dL_arePurses_422 : decode cL_arePurses 422 = .ok (.invokevirtual 20, 3) := by decide +kernel
theorem dL_arePurses_425 : decode cL_arePurses 425 = .ok (.if_icmp .ne 5, 3) := by decide +kernel
theorem dL_arePurses_428 : decode cL_arePurses 428 = .ok (.iconst 0, 1) := by decide +kernel
theorem dL_arePurses_429 : decode cL_arePurses 429 = .ok (.ireturn, 1) := by decide +kernel
theorem dL_arePurses_430 : decode cL_arePurses 430 = .ok (.iinc 8 1, 3) := by decide +kernel
theorem dL_arePurses_433 : decode cL_arePurses 433 = .ok (.goto (-403), 3) := by decide +kernel
theorem dL_arePurses_436 : decode cL_arePurses 436 = .ok (.aload_n 0, 1) := by decide +kernel
theorem dL_arePurses_437 : decode cL_arePurses 437 = .ok (.iload 5, 2) := by decide +kernel
theorem dL_arePurses_439 : decode cL_arePurses 439 = .ok (.iconst 0, 1) := by decide +kernel
theorem dL_arePurses_440 : decode cL_arePurses 440 = .ok (.invokevirtual 20, 3) := by decide +kernel
theorem dL_arePurses_443 : decode cL_arePurses 443 = .ok (.i2d, 1) := by decide +kernel
theorem dL_arePurses_444 : decode cL_arePurses 444 = .ok (.aload_n 0, 1) := by decide +kernel
theorem dL_arePurses_445 : decode cL_arePurses 445 = .ok (.iconst 2, 1) := by decide +kernel
theorem dL_arePurses_446 : decode cL_arePurses 446 = .ok (.invokevirtual 34, 3) := by decide +kernel
theorem dL_arePurses_449 : decode cL_arePurses 449 = .ok (.i2d, 1) := by decide +kernel
theorem dL_arePurses_450 : decode cL_arePurses 450 = .ok (.ddiv, 1) := by decide +kernel
theorem dL_arePurses_451 : decode cL_arePurses 451 = .ok (.dstore 8, 2) := by decide +kernel
theorem dL_arePurses_453 : decode cL_arePurses 453 = .ok (.iload 6, 2) := by decide +kernel
theorem dL_arePurses_455 : decode cL_arePurses 455 = .ok (.sipush 255, 3) := by decide +kernel
theorem dL_arePurses_458 : decode cL_arePurses 458 = .ok (.if_icmp .ne 111, 3) := by decide +kernel
theorem dL_arePurses_461 : decode cL_arePurses 461 = .ok (.aload_n 1, 1) := by decide +kernel
theorem dL_arePurses_462 : decode cL_arePurses 462 = .ok (.iconst 0, 1) := by decide +kernel
theorem dL_arePurses_463 : decode cL_arePurses 463 = .ok (.iaload, 1) := by decide +kernel
theorem dL_arePurses_464 : decode cL_arePurses 464 = .ok (.bipush 20, 2) := by decide +kernel
theorem dL_arePurses_466 : decode cL_arePurses 466 = .ok (.if_icmp .ne 103, 3) := by decide +kernel
theorem dL_arePurses_469 : decode cL_arePurses 469 = .ok (.aload_n 1, 1) := by decide +kernel
theorem dL_arePurses_470 : decode cL_arePurses 470 = .ok (.iconst 1, 1) := by decide +kernel
theorem dL_arePurses_471 : decode cL_arePurses 471 = .ok (.iaload, 1) := by decide +kernel
theorem dL_arePurses_472 : decode cL_arePurses 472 = .ok (.bipush 20, 2) := by decide +kernel
theorem dL_arePurses_474 : decode cL_arePurses 474 = .ok (.if_icmp .ne 95, 3) := by decide +kernel
theorem dL_arePurses_477 : decode cL_arePurses 477 = .ok (.aload_n 1, 1) := by decide +kernel
theorem dL_arePurses_478 : decode cL_arePurses 478 = .ok (.iconst 2, 1) := by decide +kernel
theorem dL_arePurses_479 : decode cL_arePurses 479 = .ok (.iaload, 1) := by decide +kernel
theorem dL_arePurses_480 : decode cL_arePurses 480 = .ok (.bipush 20, 2) := by decide +kernel
theorem dL_arePurses_482 : decode cL_arePurses 482 = .ok (.if_icmp .ne 87, 3) := by decide +kernel
theorem dL_arePurses_485 : decode cL_arePurses 485 = .ok (.aload_n 1, 1) := by decide +kernel
theorem dL_arePurses_486 : decode cL_arePurses 486 = .ok (.iconst 3, 1) := by decide +kernel
theorem dL_arePurses_487 : decode cL_arePurses 487 = .ok (.iaload, 1) := by decide +kernel
theorem dL_arePurses_488 : decode cL_arePurses 488 = .ok (.bipush 20, 2) := by decide +kernel
theorem dL_arePurses_490 : decode cL_arePurses 490 = .ok (.if_icmp .ne 79, 3) := by decide +kernel
theorem dL_arePurses_493 : decode cL_arePurses 493 = .ok (.aload_n 0, 1) := by decide +kernel
theorem dL_arePurses_494 : decode cL_arePurses 494 = .ok (.iconst 1, 1) := by decide +kernel
theorem dL_arePurses_495 : decode cL_arePurses 495 = .ok (.invokevirtual 34, 3) := by decide +kernel
theorem dL_arePurses_498 : decode cL_arePurses 498 = .ok (.bipush 80, 2) := by decide +kernel
theorem dL_arePurses_500 : decode cL_arePurses 500 = .ok (.if_icmp .ne 69, 3) := by decide +kernel
theorem dL_arePurses_503 : decode cL_arePurses 503 = .ok (.aload_n 0, 1) := by decide +kernel
theorem dL_arePurses_504 : decode cL_arePurses 504 = .ok (.iconst 2, 1) := by decide +kernel
theorem dL_arePurses_505 : decode cL_arePurses 505 = .ok (.invokevirtual 34, 3) := by decide +kernel
theorem dL_arePurses_508 : decode cL_arePurses 508 = .ok (.iload_n 2, 1) := by decide +kernel
theorem dL_arePurses_509 : decode cL_arePurses 509 = .ok (.if_icmp .ne 60, 3) := by decide +kernel
theorem dL_arePurses_512 : decode cL_arePurses 512 = .ok (.iload_n 3, 1) := by decide +kernel
theorem dL_arePurses_513 : decode cL_arePurses 513 = .ok (.iload 4, 2) := by decide +kernel
theorem dL_arePurses_515 : decode cL_arePurses 515 = .ok (.if_icmp .ne 54, 3) := by decide +kernel
theorem dL_arePurses_518 : decode cL_arePurses 518 = .ok (.iload 7, 2) := by decide +kernel
theorem dL_arePurses_520 : decode cL_arePurses 520 = .ok (.aload_n 0, 1) := by decide +kernel
theorem dL_arePurses_521 : decode cL_arePurses 521 = .ok (.iconst 1, 1) := by decide +kernel
theorem dL_arePurses_522 : decode cL_arePurses 522 = .ok (.invokevirtual 16, 3) := by decide +kernel
theorem dL_arePurses_525 : decode cL_arePurses 525 = .ok (.if_icmp .ne 44, 3) := by decide +kernel
theorem dL_arePurses_528 : decode cL_arePurses 528 = .ok (.iload 7, 2) := by decide +kernel
theorem dL_arePurses_530 : decode cL_arePurses 530 = .ok (.iconst 1, 1) := by decide +kernel
theorem dL_arePurses_531 : decode cL_arePurses 531 = .ok (.if_icmp .lt 38, 3) := by decide +kernel
theorem dL_arePurses_534 : decode cL_arePurses 534 = .ok (.iload 7, 2) := by decide +kernel
theorem dL_arePurses_536 : decode cL_arePurses 536 = .ok (.bipush 15, 2) := by decide +kernel
theorem dL_arePurses_538 : decode cL_arePurses 538 = .ok (.if_icmp .gt 31, 3) := by decide +kernel
theorem dL_arePurses_541 : decode cL_arePurses 541 = .ok (.aload_n 0, 1) := by decide +kernel
theorem dL_arePurses_542 : decode cL_arePurses 542 = .ok (.invokevirtual 37, 3) := by decide +kernel
theorem dL_arePurses_545 : decode cL_arePurses 545 = .ok (.dload 8, 2) := by decide +kernel
theorem dL_arePurses_547 : decode cL_arePurses 547 = .ok (.dcmp .l, 1) := by decide +kernel
theorem dL_arePurses_548 : decode cL_arePurses 548 = .ok (.ifCond .ne 21, 3) := by decide +kernel
theorem dL_arePurses_551 : decode cL_arePurses 551 = .ok (.dload 8, 2) := by decide +kernel
theorem dL_arePurses_553 : decode cL_arePurses 553 = .ok (.dconst 0, 1) := by decide +kernel
theorem dL_arePurses_554 : decode cL_arePurses 554 = .ok (.dcmp .l, 1) := by decide +kernel
theorem dL_arePurses_555 : decode cL_arePurses 555 = .ok (.ifCond .le 14, 3) := by decide +kernel
theorem dL_arePurses_558 : decode cL_arePurses 558 = .ok (.dload 8, 2) := by decide +kernel
theorem dL_arePurses_560 : decode cL_arePurses 560 = .ok (.dconst 1, 1) := by decide +kernel
theorem dL_arePurses_561 : decode cL_arePurses 561 = .ok (.dcmp .g, 1) := by decide +kernel
theorem dL_arePurses_562 : decode cL_arePurses 562 = .ok (.ifCond .gt 7, 3) := by decide +kernel
theorem dL_arePurses_565 : decode cL_arePurses 565 = .ok (.iconst 1, 1) := by decide +kernel
theorem dL_arePurses_566 : decode cL_arePurses 566 = .ok (.goto 4, 3) := by decide +kernel
theorem dL_arePurses_569 : decode cL_arePurses 569 = .ok (.iconst 0, 1) := by decide +kernel
theorem dL_arePurses_570 : decode cL_arePurses 570 = .ok (.ireturn, 1) := by decide +kernel
theorem dL_arePromises_0 : decode cL_arePromises 0 = .ok (.iconst 0, 1) := by decide +kernel
theorem dL_arePromises_1 : decode cL_arePromises 1 = .ok (.istore_n 1, 1) := by decide +kernel
theorem dL_arePromises_2 : decode cL_arePromises 2 = .ok (.iconst 0, 1) := by decide +kernel
theorem dL_arePromises_3 : decode cL_arePromises 3 = .ok (.istore_n 2, 1) := by decide +kernel
theorem dL_arePromises_4 : decode cL_arePromises 4 = .ok (.aload_n 0, 1) := by decide +kernel
theorem dL_arePromises_5 : decode cL_arePromises 5 = .ok (.iconst 3, 1) := by decide +kernel
theorem dL_arePromises_6 : decode cL_arePromises 6 = .ok (.invokevirtual 34, 3) := by decide +kernel
theorem dL_arePromises_9 : decode cL_arePromises 9 = .ok (.istore_n 3, 1) := by decide +kernel
theorem dL_arePromises_10 : decode cL_arePromises 10 = .ok (.iconst 0, 1) := by decide +kernel
theorem dL_arePromises_11 : decode cL_arePromises 11 = .ok (.istore 4, 2) := by decide +kernel
theorem dL_arePromises_13 : decode cL_arePromises 13 = .ok (.iload 4, 2) := by decide +kernel
theorem dL_arePromises_15 : decode cL_arePromises 15 = .ok (.bipush 8, 2) := by decide +kernel
theorem dL_arePromises_17 : decode cL_arePromises 17 = .ok (.if_icmp .ge 19, 3) := by decide +kernel
theorem dL_arePromises_20 : decode cL_arePromises 20 = .ok (.iload_n 2, 1) := by decide +kernel
theorem dL_arePromises_21 : decode cL_arePromises 21 = .ok (.aload_n 0, 1) := by decide +kernel
theorem dL_arePromises_22 : decode cL_arePromises 22 = .ok (.iload 4, 2) := by decide +kernel
theorem dL_arePromises_24 : decode cL_arePromises 24 = .ok (.iconst 3, 1) := by decide +kernel
theorem dL_arePromises_25 : decode cL_arePromises 25 = .ok (.invokevirtual 20, 3) := by decide +kernel
theorem dL_arePromises_28 : decode cL_arePromises 28 = .ok (.iadd, 1) := by decide +kernel
theorem dL_arePromises_29 : decode cL_arePromises 29 = .ok (.istore_n 2, 1) := by decide +kernel
theorem dL_arePromises_30 : decode cL_arePromises 30 = .ok (.iinc 4 1, 3) := by decide +kernel
theorem dL_arePromises_33 : decode cL_arePromises 33 = .ok (.goto (-20), 3) := by decide +kernel
theorem dL_arePromises_36 : decode cL_arePromises 36 = .ok (.iconst 0, 1) := by decide +kernel
theorem dL_arePromises_37 : decode cL_arePromises 37 = .ok (.istore 4, 2) := by decide +kernel
theorem dL_arePromises_39 : decode cL_arePromises 39 = .ok (.iload 4, 2) := by decide +kernel
theorem dL_arePromises_41 : decode cL_arePromises 41 = .ok (.iload_n 3, 1) := by decide +kernel
theorem dL_arePromises_42 : decode cL_arePromises 42 = .ok (.if_icmp .ge 142, 3) := by decide +kernel
theorem dL_arePromises_45 : decode cL_arePromises 45 = .ok (.aload_n 0, 1) := by decide +kernel
theorem dL_arePromises_46 : decode cL_arePromises 46 = .ok (.iload 4, 2) := by decide +kernel
theorem dL_arePromises_48 : decode cL_arePromises 48 = .ok (.iconst 3, 1) := by decide +kernel
theorem dL_arePromises_49 : decode cL_arePromises 49 = .ok (.invokevirtual 41, 3) := by decide +kernel
theorem dL_arePromises_52 : decode cL_arePromises 52 = .ok (.aload_n 0, 1) := by decide +kernel
theorem dL_arePromises_53 : decode cL_arePromises 53 = .ok (.iconst 0, 1) := by decide +kernel
theorem dL_arePromises_54 : decode cL_arePromises 54 = .ok (.invokevirtual 34, 3) := by decide +kernel
theorem dL_arePromises_57 : decode cL_arePromises 57 = .ok (.isub, 1) := by decide +kernel
theorem dL_arePromises_58 : decode cL_arePromises 58 = .ok (.istore 5, 2) := by decide +kernel
theorem dL_arePromises_60 : decode cL_arePromises 60 = .ok (.aload_n 0, 1) := by decide +kernel
theorem dL_arePromises_61 : decode cL_arePromises 61 = .ok (.iload 4, 2) := by decide +kernel
theorem dL_arePromises_63 : decode cL_arePromises 63 = .ok (.invokevirtual 44, 3) := by decide +kernel
theorem dL_arePromises_66 : decode cL_arePromises 66 = .ok (.istore 6, 2) := by decide +kernel
theorem dL_arePromises_68 : decode cL_arePromises 68 = .ok (.aload_n 0, 1) := by decide +kernel
theorem dL_arePromises_69 : decode cL_arePromises 69 = .ok (.iload 4, 2) := by decide +kernel
theorem dL_arePromises_71 : decode cL_arePromises 71 = .ok (.iconst 4, 1) := by decide +kernel
theorem dL_arePromises_72 : decode cL_arePromises 72 = .ok (.invokevirtual 41, 3) := by decide +kernel
theorem dL_arePromises_75 : decode cL_arePromises 75 = .ok (.istore 7, 2) := by decide +kernel
theorem dL_arePromises_77 : decode cL_arePromises 77 = .ok (.iload_n 1, 1) := by decide +kernel
theorem dL_arePromises_78 : decode cL_arePromises 78 = .ok (.aload_n 0, 1) := by decide +kernel
theorem dL_arePromises_79 : decode cL_arePromises 79 = .ok (.iload 4, 2) := by decide +kernel
theorem dL_arePromises_81 : decode cL_arePromises 81 = .ok (.iconst 2, 1) := by decide +kernel
theorem dL_arePromises_82 : decode cL_arePromises 82 = .ok (.invokevirtual 41, 3) := by decide +kernel
theorem dL_arePromises_85 : decode cL_arePromises 85 = .ok (.iadd, 1) := by decide +kernel
theorem dL_arePromises_86 : decode cL_arePromises 86 = .ok (.istore_n 1, 1) := by decide +kernel
theorem dL_arePromises_87 : decode cL_arePromises 87 = .ok (.iload 5, 2) := by decide +kernel
theorem dL_arePromises_89 : decode cL_arePromises 89 = .ok (.ifCond .lt 79, 3) := by decide +kernel
theorem dL_arePromises_92 : decode cL_arePromises 92 = .ok (.iload 6, 2) := by decide +kernel
theorem dL_arePromises_94 : decode cL_arePromises 94 = .ok (.ifCond .ne 7, 3) := by decide +kernel
theorem dL_arePromises_97 : decode cL_arePromises 97 = .ok (.iconst 1, 1) := by decide +kernel
theorem dL_arePromises_98 : decode cL_arePromises 98 = .ok (.goto 4, 3) := by decide +kernel
theorem dL_arePromises_101 : decode cL_arePromises 101 = .ok (.iconst 0, 1) := by decide +kernel
theorem dL_arePromises_102 : decode cL_arePromises 102 = .ok (.iload 7, 2) := by decide +kernel
theorem dL_arePromises_104 : decode cL_arePromises 104 = .ok (.iconst (-1), 1) := by decide +kernel
theorem dL_arePromises_105 : decode cL_arePromises 105 = .ok (.if_icmp .eq 7, 3) := by decide +kernel
theorem dL_arePromises_108 : decode cL_arePromises 108 = .ok (.iconst 1, 1) := by decide +kernel
theorem dL_arePromises_109 : decode cL_arePromises 109 = .ok (.goto 4, 3) := by decide +kernel
theorem dL_arePromises_112 : decode cL_arePromises 112 = .ok (.iconst 0, 1) := by decide +kernel
theorem dL_arePromises_113 : decode cL_arePromises 113 = .ok (.if_icmp .ne 55, 3) := by decide +kernel
theorem dL_arePromises_116 : decode cL_arePromises 116 = .ok (.iload 6, 2) := by decide +kernel
theorem dL_arePromises_118 : decode cL_arePromises 118 = .ok (.iload 5, 2) := by decide +kernel
theorem dL_arePromises_120 : decode cL_arePromises 120 = .ok (.if_icmp .gt 48, 3) := by decide +kernel
theorem dL_arePromises_123 : decode cL_arePromises 123 = .ok (.iload 7, 2) := by decide +kernel
theorem dL_arePromises_125 : decode cL_arePromises 125 = .ok (.aload_n 0, 1) := by decide +kernel
theorem dL_arePromises_126 : decode cL_arePromises 126 = .ok (.aload_n 0, 1) := by decide +kernel
theorem dL_arePromises_127 : decode cL_arePromises 127 = .ok (.iload 4, 2) := by decide +kernel
theorem dL_arePromises_129 : decode cL_arePromises 129 = .ok (.iconst 0, 1) := by decide +kernel
theorem dL_arePromises_130 : decode cL_arePromises 130 = .ok (.invokevirtual 41, 3) := by decide +kernel
theorem dL_arePromises_133 : decode cL_arePromises 133 = .ok (.aload_n 0, 1) := by decide +kernel
theorem dL_arePromises_134 : decode cL_arePromises 134 = .ok (.iload 4, 2) := by decide +kernel
theorem dL_arePromises_136 : decode cL_arePromises 136 = .ok (.iconst 2, 1) := by decide +kernel
theorem dL_arePromises_137 : decode cL_arePromises 137 = .ok (.invokevirtual 41, 3) := by decide +kernel
theorem dL_arePromises_140 : decode cL_arePromises 140 = .ok (.iconst 0, 1) := by decide +kernel
theorem dL_arePromises_141 : decode cL_arePromises 141 = .ok (.invokevirtual 47, 3) := by decide +kernel
theorem dL_arePromises_144 : decode cL_arePromises 144 = .ok (.if_icmp .ne 24, 3) := by decide +kernel
theorem dL_arePromises_147 : decode cL_arePromises 147 = .ok (.aload_n 0, 1) := by decide +kernel
theorem dL_arePromises_148 : decode cL_arePromises 148 = .ok (.iload 4, 2) := by decide +kernel
theorem dL_arePromises_150 : decode cL_arePromises 150 = .ok (.iconst 0, 1) := by decide +kernel
theorem dL_arePromises_151 : decode cL_arePromises 151 = .ok (.invokevirtual 41, 3) := by decide +kernel
theorem dL_arePromises_154 : decode cL_arePromises 154 = .ok (.aload_n 0, 1) := by decide +kernel
theorem dL_arePromises_155 : decode cL_arePromises 155 = .ok (.iload 4, 2) := by decide +kernel
theorem dL_arePromises_157 : decode cL_arePromises 157 = .ok (.iconst 1, 1) := by decide +kernel
theorem dL_arePromises_158 : decode cL_arePromises 158 = .ok (.invokevirtual 41, 3) := by decide +kernel
theorem dL_arePromises_161 : decode cL_arePromises 161 = .ok (.if_icmp .eq 7, 3) := by decide +kernel
theorem dL_arePromises_164 : decode cL_arePromises 164 = .ok (.iconst 1, 1) := by decide +kernel
theorem dL_arePromises_165 : decode cL_arePromises 165 = .ok (.goto 4, 3) := by decide +kernel
theorem dL_arePromises_168 : decode cL_arePromises 168 = .ok (.iconst 0, 1) := by decide +kernel
theorem dL_arePromises_169 : decode cL_arePromises 169 = .ok (.istore 8, 2) := by decide +kernel
theorem dL_arePromises_171 : decode cL_arePromises 171 = .ok (.iload 8, 2) := by decide +kernel
theorem dL_arePromises_173 : decode cL_arePromises 173 = .ok (.ifCond .ne 5, 3) := by decide +kernel
theorem dL_arePromises_176 : decode cL_arePromises 176 = .ok (.iconst 0, 1) := by decide +kernel
theorem dL_arePromises_177 : decode cL_arePromises 177 = .ok (.ireturn, 1) := by decide +kernel
theorem dL_arePromises_178 : decode cL_arePromises 178 = .ok (.iinc 4 1, 3) := by decide +kernel
theorem dL_arePromises_181 : decode cL_arePromises 181 = .ok (.goto (-142), 3) := by decide +kernel
theorem dL_arePromises_184 : decode cL_arePromises 184 = .ok (.iload_n 3, 1) := by decide +kernel
theorem dL_arePromises_185 : decode cL_arePromises 185 = .ok (.bipush 8, 2) := by decide +kernel
theorem dL_arePromises_187 : decode cL_arePromises 187 = .ok (.if_icmp .gt 12, 3) := by decide +kernel
theorem dL_arePromises_190 : decode cL_arePromises 190 = .ok (.iload_n 1, 1) := by decide +kernel
theorem dL_arePromises_191 : decode cL_arePromises 191 = .ok (.iload_n 2, 1) := by decide +kernel
theorem dL_arePromises_192 : decode cL_arePromises 192 = .ok (.if_icmp .ne 7, 3) := by decide +kernel
theorem dL_arePromises_195 : decode cL_arePromises 195 = .ok (.iconst 1, 1) := by decide +kernel
theorem dL_arePromises_196 : decode cL_arePromises 196 = .ok (.goto 4, 3) := by decide +kernel
theorem dL_arePromises_199 : decode cL_arePromises 199 = .ok (.iconst 0, 1) := by decide +kernel
theorem dL_arePromises_200 : decode cL_arePromises 200 = .ok (.ireturn, 1) := by decide +kernel
theorem dL_pays_0 : decode cL_pays 0 = .ok (.aload_n 0, 1) := by decide +kernel
theorem dL_pays_1 : decode cL_pays 1 = .ok (.iload_n 1, 1) := by decide +kernel
theorem dL_pays_2 : decode cL_pays 2 = .ok (.iload_n 2, 1) := by decide +kernel
theorem dL_pays_3 : decode cL_pays 3 = .ok (.iconst 0, 1) := by decide +kernel
theorem dL_pays_4 : decode cL_pays 4 = .ok (.invokevirtual 47, 3) := by decide +kernel
theorem dL_pays_7 : decode cL_pays 7 = .ok (.istore_n 3, 1) := by decide +kernel
theorem dL_pays_8 : decode cL_pays 8 = .ok (.iload_n 3, 1) := by decide +kernel
theorem dL_pays_9 : decode cL_pays 9 = .ok (.aload_n 0, 1) := by decide +kernel
theorem dL_pays_10 : decode cL_pays 10 = .ok (.iload_n 1, 1) := by decide +kernel
theorem dL_pays_11 : decode cL_pays 11 = .ok (.iload_n 2, 1) := by decide +kernel
theorem dL_pays_12 : decode cL_pays 12 = .ok (.iconst 1, 1) := by decide +kernel
theorem dL_pays_13 : decode cL_pays 13 = .ok (.invokevirtual 47, 3) := by decide +kernel
theorem dL_pays_16 : decode cL_pays 16 = .ok (.if_icmp .ne 40, 3) := by decide +kernel
theorem dL_pays_19 : decode cL_pays 19 = .ok (.iload_n 2, 1) := by decide +kernel
theorem dL_pays_20 : decode cL_pays 20 = .ok (.aload_n 0, 1) := by decide +kernel
theorem dL_pays_21 : decode cL_pays 21 = .ok (.iload_n 1, 1) := by decide +kernel
theorem dL_pays_22 : decode cL_pays 22 = .ok (.iconst 0, 1) := by decide +kernel
theorem dL_pays_23 : decode cL_pays 23 = .ok (.invokevirtual 20, 3) := by decide +kernel
theorem dL_pays_26 : decode cL_pays 26 = .ok (.if_icmp .le 11, 3) := by decide +kernel
theorem dL_pays_29 : decode cL_pays 29 = .ok (.iload_n 3, 1) := by decide +kernel
theorem dL_pays_30 : decode cL_pays 30 = .ok (.iconst (-1), 1) := by decide +kernel
theorem dL_pays_31 : decode cL_pays 31 = .ok (.if_icmp .ne 25, 3) := by decide +kernel
theorem dL_pays_34 : decode cL_pays 34 = .ok (.goto 18, 3) := by decide +kernel
theorem dL_pays_37 : decode cL_pays 37 = .ok (.iload_n 3, 1) := by decide +kernel
theorem dL_pays_38 : decode cL_pays 38 = .ok (.iconst (-1), 1) := by decide +kernel
theorem dL_pays_39 : decode cL_pays 39 = .ok (.if_icmp .eq 13, 3) := by decide +kernel
theorem dL_pays_42 : decode cL_pays 42 = .ok (.iload_n 3, 1) := by decide +kernel
theorem dL_pays_43 : decode cL_pays 43 = .ok (.iconst 1, 1) := by decide +kernel
theorem dL_pays_44 : decode cL_pays 44 = .ok (.if_icmp .lt 12, 3) := by decide +kernel
theorem dL_pays_47 : decode cL_pays 47 = .ok (.iload_n 3, 1) := by decide +kernel
theorem dL_pays_48 : decode cL_pays 48 = .ok (.iload_n 2, 1) := by decide +kernel
theorem dL_pays_49 : decode cL_pays 49 = .ok (.if_icmp .gt 7, 3) := by decide +kernel
theorem dL_pays_52 : decode cL_pays 52 = .ok (.iconst 1, 1) := by decide +kernel
theorem dL_pays_53 : decode cL_pays 53 = .ok (.goto 4, 3) := by decide +kernel
theorem dL_pays_56 : decode cL_pays 56 = .ok (.iconst 0, 1) := by decide +kernel
theorem dL_pays_57 : decode cL_pays 57 = .ok (.ireturn, 1) := by decide +kernel
theorem dL_storms_0 : decode cL_storms 0 = .ok (.bipush 32, 2) := by decide +kernel
theorem dL_storms_2 : decode cL_storms 2 = .ok (.newarray .int, 2) := by decide +kernel
theorem dL_storms_4 : decode cL_storms 4 = .ok (.astore_n 1, 1) := by decide +kernel
theorem dL_storms_5 : decode cL_storms 5 = .ok (.bipush 8, 2) := by decide +kernel
theorem dL_storms_7 : decode cL_storms 7 = .ok (.newarray .int, 2) := by decide +kernel
theorem dL_storms_9 : decode cL_storms 9 = .ok (.astore_n 2, 1) := by decide +kernel
theorem dL_storms_10 : decode cL_storms 10 = .ok (.aload_n 0, 1) := by decide +kernel
theorem dL_storms_11 : decode cL_storms 11 = .ok (.bipush 6, 2) := by decide +kernel
theorem dL_storms_13 : decode cL_storms 13 = .ok (.invokevirtual 34, 3) := by decide +kernel
theorem dL_storms_16 : decode cL_storms 16 = .ok (.istore_n 3, 1) := by decide +kernel
theorem dL_storms_17 : decode cL_storms 17 = .ok (.aload_n 0, 1) := by decide +kernel
theorem dL_storms_18 : decode cL_storms 18 = .ok (.iconst 3, 1) := by decide +kernel
theorem dL_storms_19 : decode cL_storms 19 = .ok (.invokevirtual 34, 3) := by decide +kernel
theorem dL_storms_22 : decode cL_storms 22 = .ok (.istore 4, 2) := by decide +kernel
theorem dL_storms_24 : decode cL_storms 24 = .ok (.aload_n 0, 1) := by decide +kernel
theorem dL_storms_25 : decode cL_storms 25 = .ok (.iconst 0, 1) := by decide +kernel
theorem dL_storms_26 : decode cL_storms 26 = .ok (.invokevirtual 34, 3) := by decide +kernel
theorem dL_storms_29 : decode cL_storms 29 = .ok (.istore 5, 2) := by decide +kernel
theorem dL_storms_31 : decode cL_storms 31 = .ok (.iconst 0, 1) := by decide +kernel
theorem dL_storms_32 : decode cL_storms 32 = .ok (.istore 6, 2) := by decide +kernel
theorem dL_storms_34 : decode cL_storms 34 = .ok (.iconst 0, 1) := by decide +kernel
theorem dL_storms_35 : decode cL_storms 35 = .ok (.istore 7, 2) := by decide +kernel
theorem dL_storms_37 : decode cL_storms 37 = .ok (.iload 7, 2) := by decide +kernel
theorem dL_storms_39 : decode cL_storms 39 = .ok (.bipush 32, 2) := by decide +kernel
theorem dL_storms_41 : decode cL_storms 41 = .ok (.if_icmp .ge 41, 3) := by decide +kernel
theorem dL_storms_44 : decode cL_storms 44 = .ok (.aload_n 1, 1) := by decide +kernel
theorem dL_storms_45 : decode cL_storms 45 = .ok (.iload 7, 2) := by decide +kernel
theorem dL_storms_47 : decode cL_storms 47 = .ok (.aload_n 0, 1) := by decide +kernel
theorem dL_storms_48 : decode cL_storms 48 = .ok (.iload 7, 2) := by decide +kernel
theorem dL_storms_50 : decode cL_storms 50 = .ok (.iconst 4, 1) := by decide +kernel
theorem dL_storms_51 : decode cL_storms 51 = .ok (.idiv, 1) := by decide +kernel
theorem dL_storms_52 : decode cL_storms 52 = .ok (.iload 7, 2) := by decide +kernel
theorem dL_storms_54 : decode cL_storms 54 = .ok (.iconst 4, 1) := by decide +kernel
theorem dL_storms_55 : decode cL_storms 55 = .ok (.irem, 1) := by decide +kernel
theorem dL_storms_56 : decode cL_storms 56 = .ok (.invokevirtual 24, 3) := by decide +kernel
theorem dL_storms_59 : decode cL_storms 59 = .ok (.iastore, 1) := by decide +kernel
theorem dL_storms_60 : decode cL_storms 60 = .ok (.aload_n 2, 1) := by decide +kernel
theorem dL_storms_61 : decode cL_storms 61 = .ok (.iload 7, 2) := by decide +kernel
theorem dL_storms_63 : decode cL_storms 63 = .ok (.iconst 4, 1) := by decide +kernel
theorem dL_storms_64 : decode cL_storms 64 = .ok (.idiv, 1) := by decide +kernel
theorem dL_storms_65 : decode cL_storms 65 = .ok (.aload_n 0, 1) := by decide +kernel
theorem dL_storms_66 : decode cL_storms 66 = .ok (.iload 7, 2) := by decide +kernel
theorem dL_storms_68 : decode cL_storms 68 = .ok (.iconst 4, 1) := by decide +kernel
theorem dL_storms_69 : decode cL_storms 69 = .ok (.idiv, 1) := by decide +kernel
theorem dL_storms_70 : decode cL_storms 70 = .ok (.iconst 1, 1) := by decide +kernel
theorem dL_storms_71 : decode cL_storms 71 = .ok (.iconst 0, 1) := by decide +kernel
theorem dL_storms_72 : decode cL_storms 72 = .ok (.invokevirtual 30, 3) := by decide +kernel
theorem dL_storms_75 : decode cL_storms 75 = .ok (.iastore, 1) := by decide +kernel
theorem dL_storms_76 : decode cL_storms 76 = .ok (.iinc 7 1, 3) := by decide +kernel
theorem dL_storms_79 : decode cL_storms 79 = .ok (.goto (-42), 3) := by decide +kernel
theorem dL_storms_82 : decode cL_storms 82 = .ok (.iconst 0, 1) := by decide +kernel
theorem dL_storms_83 : decode cL_storms 83 = .ok (.istore 7, 2) := by decide +kernel
theorem dL_storms_85 : decode cL_storms 85 = .ok (.iload 7, 2) := by decide +kernel
theorem dL_storms_87 : decode cL_storms 87 = .ok (.iload 4, 2) := by decide +kernel
theorem dL_storms_89 : decode cL_storms 89 = .ok (.if_icmp .ge 31, 3) := by decide +kernel
theorem dL_storms_92 : decode cL_storms 92 = .ok (.iload 6, 2) := by decide +kernel
theorem dL_storms_94 : decode cL_storms 94 = .ok (.aload_n 0, 1) := by decide +kernel
theorem dL_storms_95 : decode cL_storms 95 = .ok (.iload 7, 2) := by decide +kernel
theorem dL_storms_97 : decode cL_storms 97 = .ok (.iconst 3, 1) := by decide +kernel
theorem dL_storms_98 : decode cL_storms 98 = .ok (.invokevirtual 41, 3) := by decide +kernel
theorem dL_storms_101 : decode cL_storms 101 = .ok (.iload 5, 2) := by decide +kernel
theorem dL_storms_103 : decode cL_storms 103 = .ok (.if_icmp .ne 7, 3) := by decide +kernel
theorem dL_storms_106 : decode cL_storms 106 = .ok (.iconst 1, 1) := by decide +kernel
theorem dL_storms_107 : decode cL_storms 107 = .ok (.goto 4, 3) := by decide +kernel
theorem dL_storms_110 : decode cL_storms 110 = .ok (.iconst 0, 1) := by decide +kernel
theorem dL_storms_111 : decode cL_storms 111 = .ok (.iadd, 1) := by decide +kernel
theorem dL_storms_112 : decode cL_storms 112 = .ok (.istore 6, 2) := by decide +kernel
theorem dL_storms_114 : decode cL_storms 114 = .ok (.iinc 7 1, 3) := by decide +kernel
theorem dL_storms_117 : decode cL_storms 117 = .ok (.goto (-32), 3) := by decide +kernel
theorem dL_storms_120 : decode cL_storms 120 = .ok (.aload_n 0, 1) := by decide +kernel
theorem dL_storms_121 : decode cL_storms 121 = .ok (.invokevirtual 50, 3) := by decide +kernel
theorem dL_storms_124 : decode cL_storms 124 = .ok (.istore 7, 2) := by decide +kernel
theorem dL_storms_126 : decode cL_storms 126 = .ok (.iconst 0, 1) := by decide +kernel
theorem dL_storms_127 : decode cL_storms 127 = .ok (.istore 8, 2) := by decide +kernel
theorem dL_storms_129 : decode cL_storms 129 = .ok (.iload 8, 2) := by decide +kernel
theorem dL_storms_131 : decode cL_storms 131 = .ok (.bipush 32, 2) := by decide +kernel
theorem dL_storms_133 : decode cL_storms 133 = .ok (.if_icmp .ge 32, 3) := by decide +kernel
theorem dL_storms_136 : decode cL_storms 136 = .ok (.aload_n 0, 1) := by decide +kernel
theorem dL_storms_137 : decode cL_storms 137 = .ok (.aload_n 2, 1) := by decide +kernel
theorem dL_storms_138 : decode cL_storms 138 = .ok (.iload 8, 2) := by decide +kernel
theorem dL_storms_140 : decode cL_storms 140 = .ok (.iconst 4, 1) := by decide +kernel
theorem dL_storms_141 : decode cL_storms 141 = .ok (.idiv, 1) := by decide +kernel
theorem dL_storms_142 : decode cL_storms 142 = .ok (.iaload, 1) := by decide +kernel
theorem dL_storms_143 : decode cL_storms 143 = .ok (.iload 8, 2) := by decide +kernel
theorem dL_storms_145 : decode cL_storms 145 = .ok (.iconst 4, 1) := by decide +kernel
theorem dL_storms_146 : decode cL_storms 146 = .ok (.irem, 1) := by decide +kernel
theorem dL_storms_147 : decode cL_storms 147 = .ok (.invokevirtual 24, 3) := by decide +kernel
theorem dL_storms_150 : decode cL_storms 150 = .ok (.aload_n 1, 1) := by decide +kernel
theorem dL_storms_151 : decode cL_storms 151 = .ok (.iload 8, 2) := by decide +kernel
theorem dL_storms_153 : decode cL_storms 153 = .ok (.iaload, 1) := by decide +kernel
theorem dL_storms_154 : decode cL_storms 154 = .ok (.if_icmp .eq 5, 3) := by decide +kernel
theorem dL_storms_157 : decode cL_storms 157 = .ok (.iconst 0, 1) := by decide +kernel
theorem dL_storms_158 : decode cL_storms 158 = .ok (.ireturn, 1) := by decide +kernel
theorem dL_storms_159 : decode cL_storms 159 = .ok (.iinc 8 1, 3) := by decide +kernel
theorem dL_storms_162 : decode cL_storms 162 = .ok (.goto (-33), 3) := by decide +kernel
theorem dL_storms_165 : decode cL_storms 165 = .ok (.iload 7, 2) := by decide +kernel
theorem dL_storms_167 : decode cL_storms 167 = .ok (.iload 6, 2) := by decide +kernel
theorem dL_storms_169 : decode cL_storms 169 = .ok (.if_icmp .ne 45, 3) := by decide +kernel
theorem dL_storms_172 : decode cL_storms 172 = .ok (.aload_n 0, 1) := by decide +kernel
theorem dL_storms_173 : decode cL_storms 173 = .ok (.bipush 6, 2) := by decide +kernel
theorem dL_storms_175 : decode cL_storms 175 = .ok (.invokevirtual 34, 3) := by decide +kernel
theorem dL_storms_178 : decode cL_storms 178 = .ok (.iload_n 3, 1) := by decide +kernel
theorem dL_storms_179 : decode cL_storms 179 = .ok (.iload 7, 2) := by decide +kernel
theorem dL_storms_181 : decode cL_storms 181 = .ok (.iadd, 1) := by decide +kernel
theorem dL_storms_182 : decode cL_storms 182 = .ok (.if_icmp .ne 32, 3) := by decide +kernel
theorem dL_storms_185 : decode cL_storms 185 = .ok (.aload_n 0, 1) := by decide +kernel
theorem dL_storms_186 : decode cL_storms 186 = .ok (.iconst 3, 1) := by decide +kernel
theorem dL_storms_187 : decode cL_storms 187 = .ok (.invokevirtual 34, 3) := by decide +kernel
theorem dL_storms_190 : decode cL_storms 190 = .ok (.iload 4, 2) := by decide +kernel
theorem dL_storms_192 : decode cL_storms 192 = .ok (.iload 7, 2) := by decide +kernel
theorem dL_storms_194 : decode cL_storms 194 = .ok (.isub, 1) := by decide +kernel
theorem dL_storms_195 : decode cL_storms 195 = .ok (.if_icmp .ne 19, 3) := by decide +kernel
theorem dL_storms_198 : decode cL_storms 198 = .ok (.aload_n 0, 1) := by decide +kernel
theorem dL_storms_199 : decode cL_storms 199 = .ok (.iconst 0, 1) := by decide +kernel
theorem dL_storms_200 : decode cL_storms 200 = .ok (.invokevirtual 34, 3) := by decide +kernel
theorem dL_storms_203 : decode cL_storms 203 = .ok (.iload 5, 2) := by decide +kernel
theorem dL_storms_205 : decode cL_storms 205 = .ok (.iconst 1, 1) := by decide +kernel
theorem dL_storms_206 : decode cL_storms 206 = .ok (.iadd, 1) := by decide +kernel
theorem dL_storms_207 : decode cL_storms 207 = .ok (.if_icmp .ne 7, 3) := by decide +kernel
theorem dL_storms_210 : decode cL_storms 210 = .ok (.iconst 1, 1) := by decide +kernel
theorem dL_storms_211 : decode cL_storms 211 = .ok (.goto 4, 3) := by decide +kernel
theorem dL_storms_214 : decode cL_storms 214 = .ok (.iconst 0, 1) := by decide +kernel
theorem dL_storms_215 : decode cL_storms 215 = .ok (.ireturn, 1) := by decide +kernel
theorem dL_fulfils_0 : decode cL_fulfils 0 = .ok (.aload_n 0, 1) := by decide +kernel
theorem dL_fulfils_1 : decode cL_fulfils 1 = .ok (.iload_n 1, 1) := by decide +kernel
theorem dL_fulfils_2 : decode cL_fulfils 2 = .ok (.iconst 4, 1) := by decide +kernel
theorem dL_fulfils_3 : decode cL_fulfils 3 = .ok (.invokevirtual 41, 3) := by decide +kernel
theorem dL_fulfils_6 : decode cL_fulfils 6 = .ok (.istore_n 2, 1) := by decide +kernel
theorem dL_fulfils_7 : decode cL_fulfils 7 = .ok (.aload_n 0, 1) := by decide +kernel
theorem dL_fulfils_8 : decode cL_fulfils 8 = .ok (.iload_n 1, 1) := by decide +kernel
theorem dL_fulfils_9 : decode cL_fulfils 9 = .ok (.iconst 0, 1) := by decide +kernel
theorem dL_fulfils_10 : decode cL_fulfils 10 = .ok (.invokevirtual 41, 3) := by decide +kernel
theorem dL_fulfils_13 : decode cL_fulfils 13 = .ok (.istore_n 3, 1) := by decide +kernel
theorem dL_fulfils_14 : decode cL_fulfils 14 = .ok (.aload_n 0, 1) := by decide +kernel
theorem dL_fulfils_15 : decode cL_fulfils 15 = .ok (.iload_n 1, 1) := by decide +kernel
theorem dL_fulfils_16 : decode cL_fulfils 16 = .ok (.iconst 1, 1) := by decide +kernel
theorem dL_fulfils_17 : decode cL_fulfils 17 = .ok (.invokevirtual 41, 3) := by decide +kernel
theorem dL_fulfils_20 : decode cL_fulfils 20 = .ok (.istore 4, 2) := by decide +kernel
theorem dL_fulfils_22 : decode cL_fulfils 22 = .ok (.aload_n 0, 1) := by decide +kernel
theorem dL_fulfils_23 : decode cL_fulfils 23 = .ok (.iload_n 1, 1) := by decide +kernel
theorem dL_fulfils_24 : decode cL_fulfils 24 = .ok (.iconst 2, 1) := by decide +kernel
theorem dL_fulfils_25 : decode cL_fulfils 25 = .ok (.invokevirtual 41, 3) := by decide +kernel
theorem dL_fulfils_28 : decode cL_fulfils 28 = .ok (.istore 5, 2) := by decide +kernel
theorem dL_fulfils_30 : decode cL_fulfils 30 = .ok (.aload_n 0, 1) := by decide +kernel
theorem dL_fulfils_31 : decode cL_fulfils 31 = .ok (.iload_n 3, 1) := by decide +kernel
theorem dL_fulfils_32 : decode cL_fulfils 32 = .ok (.iconst 0, 1) := by decide +kernel
theorem dL_fulfils_33 : decode cL_fulfils 33 = .ok (.invokevirtual 20, 3) := by decide +kernel
theorem dL_fulfils_36 : decode cL_fulfils 36 = .ok (.istore 6, 2) := by decide +kernel
theorem dL_fulfils_38 : decode cL_fulfils 38 = .ok (.aload_n 0, 1) := by decide +kernel
theorem dL_fulfils_39 : decode cL_fulfils 39 = .ok (.iload 4, 2) := by decide +kernel
theorem dL_fulfils_41 : decode cL_fulfils 41 = .ok (.iconst 0, 1) := by decide +kernel
theorem dL_fulfils_42 : decode cL_fulfils 42 = .ok (.invokevirtual 20, 3) := by decide +kernel
theorem dL_fulfils_45 : decode cL_fulfils 45 = .ok (.istore 7, 2) := by decide +kernel
theorem dL_fulfils_47 : decode cL_fulfils 47 = .ok (.aload_n 0, 1) := by decide +kernel
theorem dL_fulfils_48 : decode cL_fulfils 48 = .ok (.iconst 3, 1) := by decide +kernel
theorem dL_fulfils_49 : decode cL_fulfils 49 = .ok (.invokevirtual 34, 3) := by decide +kernel
theorem dL_fulfils_52 : decode cL_fulfils 52 = .ok (.istore 8, 2) := by decide +kernel
theorem dL_fulfils_54 : decode cL_fulfils 54 = .ok (.aload_n 0, 1) := by decide +kernel
theorem dL_fulfils_55 : decode cL_fulfils 55 = .ok (.iconst 5, 1) := by decide +kernel
theorem dL_fulfils_56 : decode cL_fulfils 56 = .ok (.invokevirtual 34, 3) := by decide +kernel
theorem dL_fulfils_59 : decode cL_fulfils 59 = .ok (.istore 9, 2) := by decide +kernel
theorem dL_fulfils_61 : decode cL_fulfils 61 = .ok (.aload_n 0, 1) := by decide +kernel
theorem dL_fulfils_62 : decode cL_fulfils 62 = .ok (.bipush 7, 2) := by decide +kernel
theorem dL_fulfils_64 : decode cL_fulfils 64 = .ok (.invokevirtual 34, 3) := by decide +kernel
theorem dL_fulfils_67 : decode cL_fulfils 67 = .ok (.istore 10, 2) := by decide +kernel
theorem dL_fulfils_69 : decode cL_fulfils 69 = .ok (.iconst 0, 1) := by decide +kernel
theorem dL_fulfils_70 : decode cL_fulfils 70 = .ok (.istore 11, 2) := by decide +kernel
theorem dL_fulfils_72 : decode cL_fulfils 72 = .ok (.iconst 0, 1) := by decide +kernel
theorem dL_fulfils_73 : decode cL_fulfils 73 = .ok (.istore 12, 2) := by decide +kernel
theorem dL_fulfils_75 : decode cL_fulfils 75 = .ok (.iload 12, 2) := by decide +kernel
theorem dL_fulfils_77 : decode cL_fulfils 77 = .ok (.iconst 4, 1) := by decide +kernel
theorem dL_fulfils_78 : decode cL_fulfils 78 = .ok (.if_icmp .ge 22, 3) := by decide +kernel
theorem dL_fulfils_81 : decode cL_fulfils 81 = .ok (.iload 11, 2) := by decide +kernel
theorem dL_fulfils_83 : decode cL_fulfils 83 = .ok (.aload_n 0, 1) := by decide +kernel
theorem dL_fulfils_84 : decode cL_fulfils 84 = .ok (.iload 4, 2) := by decide +kernel
theorem dL_fulfils_86 : decode cL_fulfils 86 = .ok (.iload 12, 2) := by decide +kernel
theorem dL_fulfils_88 : decode cL_fulfils 88 = .ok (.invokevirtual 24, 3) := by decide +kernel
theorem dL_fulfils_91 : decode cL_fulfils 91 = .ok (.isub, 1) := by decide +kernel
theorem dL_fulfils_92 : decode cL_fulfils 92 = .ok (.istore 11, 2) := by decide +kernel
theorem dL_fulfils_94 : decode cL_fulfils 94 = .ok (.iinc 12 1, 3) := by decide +kernel
theorem dL_fulfils_97 : decode cL_fulfils 97 = .ok (.goto (-22), 3) := by decide +kernel
theorem dL_fulfils_100 : decode cL_fulfils 100 = .ok (.aload_n 0, 1) := by decide +kernel
theorem dL_fulfils_101 : decode cL_fulfils 101 = .ok (.iload_n 1, 1) := by decide +kernel
theorem dL_fulfils_102 : decode cL_fulfils 102 = .ok (.invokevirtual 53, 3) := by decide +kernel
theorem dL_fulfils_105 : decode cL_fulfils 105 = .ok (.istore 12, 2) := by decide +kernel
theorem dL_fulfils_107 : decode cL_fulfils 107 = .ok (.iconst 0, 1) := by decide +kernel
theorem dL_fulfils_108 : decode cL_fulfils 108 = .ok (.istore 13, 2) := by decide +kernel
theorem dL_fulfils_110 : decode cL_fulfils 110 = .ok (.iload 13, 2) := by decide +kernel
theorem dL_fulfils_112 : decode cL_fulfils 112 = .ok (.iconst 4, 1) := by decide +kernel
theorem dL_fulfils_113 : decode cL_fulfils 113 = .ok (.if_icmp .ge 22, 3) := by decide +kernel
theorem dL_fulfils_116 : decode cL_fulfils 116 = .ok (.iload 11, 2) := by decide +kernel
theorem dL_fulfils_118 : decode cL_fulfils 118 = .ok (.aload_n 0, 1) := by decide +kernel
theorem dL_fulfils_119 : decode cL_fulfils 119 = .ok (.iload 4, 2) := by decide +kernel
theorem dL_fulfils_121 : decode cL_fulfils 121 = .ok (.iload 13, 2) := by decide +kernel
theorem dL_fulfils_123 : decode cL_fulfils 123 = .ok (.invokevirtual 24, 3) := by decide +kernel
theorem dL_fulfils_126 : decode cL_fulfils 126 = .ok (.iadd, 1) := by decide +kernel
theorem dL_fulfils_127 : decode cL_fulfils 127 = .ok (.istore 11, 2) := by decide +kernel
theorem dL_fulfils_129 : decode cL_fulfils 129 = .ok (.iinc 13 1, 3) := by decide +kernel
theorem dL_fulfils_132 : decode cL_fulfils 132 = .ok (.goto (-22), 3) := by decide +kernel
theorem dL_fulfils_135 : decode cL_fulfils 135 = .ok (.iload_n 2, 1) := by decide +kernel
theorem dL_fulfils_136 : decode cL_fulfils 136 = .ok (.iconst (-1), 1) := by decide +kernel
theorem dL_fulfils_137 : decode cL_fulfils 137 = .ok (.if_icmp .ne 43, 3) := by decide +kernel
theorem dL_fulfils_140 : decode cL_fulfils 140 = .ok (.iload 12, 2) := by decide +kernel
theorem dL_fulfils_142 : decode cL_fulfils 142 = .ok (.iconst (-1), 1) := by decide +kernel
theorem dL_fulfils_143 : decode cL_fulfils 143 = .ok (.if_icmp .ne 35, 3) := by decide +kernel
theorem dL_fulfils_146 : decode cL_fulfils 146 = .ok (.aload_n 0, 1) := by decide +kernel
theorem dL_fulfils_147 : decode cL_fulfils 147 = .ok (.iconst 3, 1) := by decide +kernel
theorem dL_fulfils_148 : decode cL_fulfils 148 = .ok (.invokevirtual 34, 3) := by decide +kernel
theorem dL_fulfils_151 : decode cL_fulfils 151 = .ok (.iload 8, 2) := by decide +kernel
theorem dL_fulfils_153 : decode cL_fulfils 153 = .ok (.if_icmp .ne 25, 3) := by decide +kernel
theorem dL_fulfils_156 : decode cL_fulfils 156 = .ok (.aload_n 0, 1) := by decide +kernel
theorem dL_fulfils_157 : decode cL_fulfils 157 = .ok (.bipush 7, 2) := by decide +kernel
theorem dL_fulfils_159 : decode cL_fulfils 159 = .ok (.invokevirtual 34, 3) := by decide +kernel
theorem dL_fulfils_162 : decode cL_fulfils 162 = .ok (.iload 10, 2) := by decide +kernel
theorem dL_fulfils_164 : decode cL_fulfils 164 = .ok (.iconst 1, 1) := by decide +kernel
theorem dL_fulfils_165 : decode cL_fulfils 165 = .ok (.iadd, 1) := by decide +kernel
theorem dL_fulfils_166 : decode cL_fulfils 166 = .ok (.if_icmp .ne 12, 3) := by decide +kernel
theorem dL_fulfils_169 : decode cL_fulfils 169 = .ok (.iload 11, 2) := by decide +kernel
theorem dL_fulfils_171 : decode cL_fulfils 171 = .ok (.ifCond .ne 7, 3) := by decide +kernel
theorem dL_fulfils_174 : decode cL_fulfils 174 = .ok (.iconst 1, 1) := by decide +kernel
theorem dL_fulfils_175 : decode cL_fulfils 175 = .ok (.goto 4, 3) := by decide +kernel
theorem dL_fulfils_178 : decode cL_fulfils 178 = .ok (.iconst 0, 1) := by decide +kernel
theorem dL_fulfils_179 : decode cL_fulfils 179 = .ok (.ireturn, 1) := by decide +kernel
theorem dL_fulfils_180 : decode cL_fulfils 180 = .ok (.iload 12, 2) := by decide +kernel
theorem dL_fulfils_182 : decode cL_fulfils 182 = .ok (.iload_n 2, 1) := by decide +kernel
theorem dL_fulfils_183 : decode cL_fulfils 183 = .ok (.if_icmp .ne 77, 3) := by decide +kernel
theorem dL_fulfils_186 : decode cL_fulfils 186 = .ok (.iload 11, 2) := by decide +kernel
theorem dL_fulfils_188 : decode cL_fulfils 188 = .ok (.iload_n 2, 1) := by decide +kernel
theorem dL_fulfils_189 : decode cL_fulfils 189 = .ok (.if_icmp .ne 71, 3) := by decide +kernel
theorem dL_fulfils_192 : decode cL_fulfils 192 = .ok (.aload_n 0, 1) := by decide +kernel
theorem dL_fulfils_193 : decode cL_fulfils 193 = .ok (.iload_n 3, 1) := by decide +kernel
theorem dL_fulfils_194 : decode cL_fulfils 194 = .ok (.iconst 0, 1) := by decide +kernel
theorem dL_fulfils_195 : decode cL_fulfils 195 = .ok (.invokevirtual 20, 3) := by decide +kernel
theorem dL_fulfils_198 : decode cL_fulfils 198 = .ok (.iload 6, 2) := by decide +kernel
theorem dL_fulfils_200 : decode cL_fulfils 200 = .ok (.iload 5, 2) := by decide +kernel
theorem dL_fulfils_202 : decode cL_fulfils 202 = .ok (.isub, 1) := by decide +kernel
theorem dL_fulfils_203 : decode cL_fulfils 203 = .ok (.if_icmp .ne 57, 3) := by decide +kernel
theorem dL_fulfils_206 : decode cL_fulfils 206 = .ok (.aload_n 0, 1) := by decide +kernel
theorem dL_fulfils_207 : decode cL_fulfils 207 = .ok (.iload 4, 2) := by decide +kernel
theorem dL_fulfils_209 : decode cL_fulfils 209 = .ok (.iconst 0, 1) := by decide +kernel
theorem dL_fulfils_210 : decode cL_fulfils 210 = .ok (.invokevirtual 20, 3) := by decide +kernel
theorem dL_fulfils_213 : decode cL_fulfils 213 = .ok (.iload 7, 2) := by decide +kernel
theorem dL_fulfils_215 : decode cL_fulfils 215 = .ok (.iload 5, 2) := by decide +kernel
theorem dL_fulfils_217 : decode cL_fulfils 217 = .ok (.iadd, 1) := by decide +kernel
theorem dL_fulfils_218 : decode cL_fulfils 218 = .ok (.if_icmp .ne 42, 3) := by decide +kernel
theorem dL_fulfils_221 : decode cL_fulfils 221 = .ok (.aload_n 0, 1) := by decide +kernel
theorem dL_fulfils_222 : decode cL_fulfils 222 = .ok (.iconst 3, 1) := by decide +kernel
theorem dL_fulfils_223 : decode cL_fulfils 223 = .ok (.invokevirtual 34, 3) := by decide +kernel
theorem dL_fulfils_226 : decode cL_fulfils 226 = .ok (.iload 8, 2) := by decide +kernel
theorem dL_fulfils_228 : decode cL_fulfils 228 = .ok (.iconst 1, 1) := by decide +kernel
theorem dL_fulfils_229 : decode cL_fulfils 229 = .ok (.isub, 1) := by decide +kernel
theorem dL_fulfils_230 : decode cL_fulfils 230 = .ok (.if_icmp .ne 30, 3) := by decide +kernel
theorem dL_fulfils_233 : decode cL_fulfils 233 = .ok (.aload_n 0, 1) := by decide +kernel
theorem dL_fulfils_234 : decode cL_fulfils 234 = .ok (.iconst 5, 1) := by decide +kernel
theorem dL_fulfils_235 : decode cL_fulfils 235 = .ok (.invokevirtual 34, 3) := by decide +kernel
theorem dL_fulfils_238 : decode cL_fulfils 238 = .ok (.iload 9, 2) := by decide +kernel
theorem dL_fulfils_240 : decode cL_fulfils 240 = .ok (.iconst 1, 1) := by decide +kernel
theorem dL_fulfils_241 : decode cL_fulfils 241 = .ok (.iadd, 1) := by decide +kernel
theorem dL_fulfils_242 : decode cL_fulfils 242 = .ok (.if_icmp .ne 18, 3) := by decide +kernel
theorem dL_fulfils_245 : decode cL_fulfils 245 = .ok (.aload_n 0, 1) := by decide +kernel
theorem dL_fulfils_246 : decode cL_fulfils 246 = .ok (.bipush 7, 2) := by decide +kernel
theorem dL_fulfils_248 : decode cL_fulfils 248 = .ok (.invokevirtual 34, 3) := by decide +kernel
theorem dL_fulfils_251 : decode cL_fulfils 251 = .ok (.iload 10, 2) := by decide +kernel
theorem dL_fulfils_253 : decode cL_fulfils 253 = .ok (.if_icmp .ne 7, 3) := by decide +kernel
theorem dL_fulfils_256 : decode cL_fulfils 256 = .ok (.iconst 1, 1) := by decide +kernel
theorem dL_fulfils_257 : decode cL_fulfils 257 = .ok (.goto 4, 3) := by decide +kernel
theorem dL_fulfils_260 : decode cL_fulfils 260 = .ok (.iconst 0, 1) := by decide +kernel
theorem dL_fulfils_261 : decode cL_fulfils 261 = .ok (.ireturn, 1) := by decide +kernel
theorem dL_waits_0 : decode cL_waits 0 = .ok (.aload_n 0, 1) := by decide +kernel
theorem dL_waits_1 : decode cL_waits 1 = .ok (.iload_n 1, 1) := by decide +kernel
theorem dL_waits_2 : decode cL_waits 2 = .ok (.invokevirtual 44, 3) := by decide +kernel
theorem dL_waits_5 : decode cL_waits 5 = .ok (.istore_n 2, 1) := by decide +kernel
theorem dL_waits_6 : decode cL_waits 6 = .ok (.aload_n 0, 1) := by decide +kernel
theorem dL_waits_7 : decode cL_waits 7 = .ok (.iload_n 1, 1) := by decide +kernel
theorem dL_waits_8 : decode cL_waits 8 = .ok (.iconst 0, 1) := by decide +kernel
theorem dL_waits_9 : decode cL_waits 9 = .ok (.invokevirtual 41, 3) := by decide +kernel
theorem dL_waits_12 : decode cL_waits 12 = .ok (.istore_n 3, 1) := by decide +kernel
theorem dL_waits_13 : decode cL_waits 13 = .ok (.aload_n 0, 1) := by decide +kernel
theorem dL_waits_14 : decode cL_waits 14 = .ok (.iload_n 1, 1) := by decide +kernel
theorem dL_waits_15 : decode cL_waits 15 = .ok (.iconst 2, 1) := by decide +kernel
theorem dL_waits_16 : decode cL_waits 16 = .ok (.invokevirtual 41, 3) := by decide +kernel
theorem dL_waits_19 : decode cL_waits 19 = .ok (.istore 4, 2) := by decide +kernel
theorem dL_waits_21 : decode cL_waits 21 = .ok (.aload_n 0, 1) := by decide +kernel
theorem dL_waits_22 : decode cL_waits 22 = .ok (.iload_n 1, 1) := by decide +kernel
theorem dL_waits_23 : decode cL_waits 23 = .ok (.iconst 3, 1) := by decide +kernel
theorem dL_waits_24 : decode cL_waits 24 = .ok (.invokevirtual 41, 3) := by decide +kernel
theorem dL_waits_27 : decode cL_waits 27 = .ok (.aload_n 0, 1) := by decide +kernel
theorem dL_waits_28 : decode cL_waits 28 = .ok (.iconst 0, 1) := by decide +kernel
theorem dL_waits_29 : decode cL_waits 29 = .ok (.invokevirtual 34, 3) := by decide +kernel
theorem dL_waits_32 : decode cL_waits 32 = .ok (.isub, 1) := by decide +kernel
theorem dL_waits_33 : decode cL_waits 33 = .ok (.istore 5, 2) := by decide +kernel
theorem dL_waits_35 : decode cL_waits 35 = .ok (.aload_n 0, 1) := by decide +kernel
theorem dL_waits_36 : decode cL_waits 36 = .ok (.iconst 0, 1) := by decide +kernel
theorem dL_waits_37 : decode cL_waits 37 = .ok (.invokevirtual 56, 3) := by decide +kernel
theorem dL_waits_40 : decode cL_waits 40 = .ok (.istore 6, 2) := by decide +kernel
theorem dL_waits_42 : decode cL_waits 42 = .ok (.iconst 0, 1) := by decide +kernel
theorem dL_waits_43 : decode cL_waits 43 = .ok (.istore 7, 2) := by decide +kernel
theorem dL_waits_45 : decode cL_waits 45 = .ok (.iload 7, 2) := by decide +kernel
theorem dL_waits_47 : decode cL_waits 47 = .ok (.iload 5, 2) := by decide +kernel
theorem dL_waits_49 : decode cL_waits 49 = .ok (.if_icmp .gt 63, 3) := by decide +kernel
theorem dL_waits_52 : decode cL_waits 52 = .ok (.aload_n 0, 1) := by decide +kernel
theorem dL_waits_53 : decode cL_waits 53 = .ok (.iload_n 3, 1) := by decide +kernel
theorem dL_waits_54 : decode cL_waits 54 = .ok (.iload 4, 2) := by decide +kernel
theorem dL_waits_56 : decode cL_waits 56 = .ok (.iconst 0, 1) := by decide +kernel
theorem dL_waits_57 : decode cL_waits 57 = .ok (.invokevirtual 47, 3) := by decide +kernel
theorem dL_waits_60 : decode cL_waits 60 = .ok (.iconst (-1), 1) := by decide +kernel
theorem dL_waits_61 : decode cL_waits 61 = .ok (.if_icmp .eq 7, 3) := by decide +kernel
theorem dL_waits_64 : decode cL_waits 64 = .ok (.iconst 1, 1) := by decide +kernel
theorem dL_waits_65 : decode cL_waits 65 = .ok (.goto 4, 3) := by decide +kernel
theorem dL_waits_68 : decode cL_waits 68 = .ok (.iconst 0, 1) := by decide +kernel
theorem dL_waits_69 : decode cL_waits 69 = .ok (.istore 8, 2) := by decide +kernel
theorem dL_waits_71 : decode cL_waits 71 = .ok (.iload 8, 2) := by decide +kernel
theorem dL_waits_73 : decode cL_waits 73 = .ok (.iload 7, 2) := by decide +kernel
theorem dL_waits_75 : decode cL_waits 75 = .ok (.iload_n 2, 1) := by decide +kernel
theorem dL_waits_76 : decode cL_waits 76 = .ok (.if_icmp .ne 7, 3) := by decide +kernel
theorem dL_waits_79 : decode cL_waits 79 = .ok (.iconst 1, 1) := by decide +kernel
theorem dL_waits_80 : decode cL_waits 80 = .ok (.goto 4, 3) := by decide +kernel
theorem dL_waits_83 : decode cL_waits 83 = .ok (.iconst 0, 1) := by decide +kernel
theorem dL_waits_84 : decode cL_waits 84 = .ok (.if_icmp .eq 16, 3) := by decide +kernel
theorem dL_waits_87 : decode cL_waits 87 = .ok (.iload_n 2, 1) := by decide +kernel
theorem dL_waits_88 : decode cL_waits 88 = .ok (.iconst (-1), 1) := by decide +kernel
theorem dL_waits_89 : decode cL_waits 89 = .ok (.if_icmp .eq 9, 3) := by decide +kernel
theorem dL_waits_92 : decode cL_waits 92 = .ok (.iload 7, 2) := by decide +kernel
theorem dL_waits_94 : decode cL_waits 94 = .ok (.iload_n 2, 1) := by decide +kernel
theorem dL_waits_95 : decode cL_waits 95 = .ok (.if_icmp .gt 5, 3) := by decide +kernel
theorem dL_waits_98 : decode cL_waits 98 = .ok (.iconst 0, 1) := by decide +kernel
theorem dL_waits_99 : decode cL_waits 99 = .ok (.ireturn, 1) := by decide +kernel
theorem dL_waits_100 : decode cL_waits 100 = .ok (.aload_n 0, 1) := by decide +kernel
theorem dL_waits_101 : decode cL_waits 101 = .ok (.invokevirtual 50, 3) := by decide +kernel
theorem dL_waits_104 : decode cL_waits 104 = .ok (.istore 9, 2) := by decide +kernel
theorem dL_waits_106 : decode cL_waits 106 = .ok (.iinc 7 1, 3) := by decide +kernel
theorem dL_waits_109 : decode cL_waits 109 = .ok (.goto (-64), 3) := by decide +kernel
theorem dL_waits_112 : decode cL_waits 112 = .ok (.aload_n 0, 1) := by decide +kernel
theorem dL_waits_113 : decode cL_waits 113 = .ok (.iconst 0, 1) := by decide +kernel
theorem dL_waits_114 : decode cL_waits 114 = .ok (.invokevirtual 59, 3) := by decide +kernel
theorem dL_waits_117 : decode cL_waits 117 = .ok (.iload 6, 2) := by decide +kernel
theorem dL_waits_119 : decode cL_waits 119 = .ok (.if_icmp .ne 17, 3) := by decide +kernel
theorem dL_waits_122 : decode cL_waits 122 = .ok (.aload_n 0, 1) := by decide +kernel
theorem dL_waits_123 : decode cL_waits 123 = .ok (.iconst 0, 1) := by decide +kernel
theorem dL_waits_124 : decode cL_waits 124 = .ok (.invokevirtual 34, 3) := by decide +kernel
theorem dL_waits_127 : decode cL_waits 127 = .ok (.iload 6, 2) := by decide +kernel
theorem dL_waits_129 : decode cL_waits 129 = .ok (.if_icmp .ne 7, 3) := by decide +kernel
theorem dL_waits_132 : decode cL_waits 132 = .ok (.iconst 1, 1) := by decide +kernel
theorem dL_waits_133 : decode cL_waits 133 = .ok (.goto 4, 3) := by decide +kernel
theorem dL_waits_136 : decode cL_waits 136 = .ok (.iconst 0, 1) := by decide +kernel
theorem dL_waits_137 : decode cL_waits 137 = .ok (.ireturn, 1) := by decide +kernel
theorem dL_trades_0 : decode cL_trades 0 = .ok (.iload_n 1, 1) := by decide +kernel
theorem dL_trades_1 : decode cL_trades 1 = .ok (.bipush 8, 2) := by decide +kernel
theorem dL_trades_3 : decode cL_trades 3 = .ok (.invokestatic 62, 3) := by decide +kernel
theorem dL_trades_6 : decode cL_trades 6 = .ok (.istore_n 2, 1) := by decide +kernel
theorem dL_trades_7 : decode cL_trades 7 = .ok (.iload_n 2, 1) := by decide +kernel
theorem dL_trades_8 : decode cL_trades 8 = .ok (.iconst 1, 1) := by decide +kernel
theorem dL_trades_9 : decode cL_trades 9 = .ok (.iadd, 1) := by decide +kernel
theorem dL_trades_10 : decode cL_trades 10 = .ok (.iload_n 1, 1) := by decide +kernel
theorem dL_trades_11 : decode cL_trades 11 = .ok (.iconst 3, 1) := by decide +kernel
theorem dL_trades_12 : decode cL_trades 12 = .ok (.ishr, 1) := by decide +kernel
theorem dL_trades_13 : decode cL_trades 13 = .ok (.bipush 7, 2) := by decide +kernel
theorem dL_trades_15 : decode cL_trades 15 = .ok (.invokestatic 62, 3) := by decide +kernel
theorem dL_trades_18 : decode cL_trades 18 = .ok (.iadd, 1) := by decide +kernel
theorem dL_trades_19 : decode cL_trades 19 = .ok (.bipush 8, 2) := by decide +kernel
theorem dL_trades_21 : decode cL_trades 21 = .ok (.irem, 1) := by decide +kernel
theorem dL_trades_22 : decode cL_trades 22 = .ok (.istore_n 3, 1) := by decide +kernel
theorem dL_trades_23 : decode cL_trades 23 = .ok (.iload_n 1, 1) := by decide +kernel
theorem dL_trades_24 : decode cL_trades 24 = .ok (.bipush 6, 2) := by decide +kernel
theorem dL_trades_26 : decode cL_trades 26 = .ok (.ishr, 1) := by decide +kernel
theorem dL_trades_27 : decode cL_trades 27 = .ok (.iconst 4, 1) := by decide +kernel
theorem dL_trades_28 : decode cL_trades 28 = .ok (.invokestatic 62, 3) := by decide +kernel
theorem dL_trades_31 : decode cL_trades 31 = .ok (.istore 4, 2) := by decide +kernel
theorem dL_trades_33 : decode cL_trades 33 = .ok (.iload_n 1, 1) := by decide +kernel
theorem dL_trades_34 : decode cL_trades 34 = .ok (.bipush 8, 2) := by decide +kernel
theorem dL_trades_36 : decode cL_trades 36 = .ok (.ishr, 1) := by decide +kernel
theorem dL_trades_37 : decode cL_trades 37 = .ok (.iconst 4, 1) := by decide +kernel
theorem dL_trades_38 : decode cL_trades 38 = .ok (.invokestatic 62, 3) := by decide +kernel
theorem dL_trades_41 : decode cL_trades 41 = .ok (.istore 5, 2) := by decide +kernel
theorem dL_trades_43 : decode cL_trades 43 = .ok (.iload_n 1, 1) := by decide +kernel
theorem dL_trades_44 : decode cL_trades 44 = .ok (.bipush 10, 2) := by decide +kernel
theorem dL_trades_46 : decode cL_trades 46 = .ok (.ishr, 1) := by decide +kernel
theorem dL_trades_47 : decode cL_trades 47 = .ok (.iload_n 1, 1) := by decide +kernel
theorem dL_trades_48 : decode cL_trades 48 = .ok (.bipush 20, 2) := by decide +kernel
theorem dL_trades_50 : decode cL_trades 50 = .ok (.ishr, 1) := by decide +kernel
theorem dL_trades_51 : decode cL_trades 51 = .ok (.iconst 4, 1) := by decide +kernel
theorem dL_trades_52 : decode cL_trades 52 = .ok (.invokestatic 62, 3) := by decide +kernel
theorem dL_trades_55 : decode cL_trades 55 = .ok (.ifCond .ne 8, 3) := by decide +kernel
theorem dL_trades_58 : decode cL_trades 58 = .ok (.bipush 15, 2) := by decide +kernel
theorem dL_trades_60 : decode cL_trades 60 = .ok (.goto 4, 3) := by decide +kernel
theorem dL_trades_63 : decode cL_trades 63 = .ok (.iconst 4, 1) := by decide +kernel
theorem dL_trades_64 : decode cL_trades 64 = .ok (.invokestatic 62, 3) := by decide +kernel
theorem dL_trades_67 : decode cL_trades 67 = .ok (.istore 6, 2) := by decide +kernel
theorem dL_trades_69 : decode cL_trades 69 = .ok (.iload_n 1, 1) := by decide +kernel
theorem dL_trades_70 : decode cL_trades 70 = .ok (.bipush 14, 2) := by decide +kernel
theorem dL_trades_72 : decode cL_trades 72 = .ok (.ishr, 1) := by decide +kernel
theorem dL_trades_73 : decode cL_trades 73 = .ok (.bipush 6, 2) := by decide +kernel
theorem dL_trades_75 : decode cL_trades 75 = .ok (.invokestatic 62, 3) := by decide +kernel
theorem dL_trades_78 : decode cL_trades 78 = .ok (.istore 7, 2) := by decide +kernel
theorem dL_trades_80 : decode cL_trades 80 = .ok (.aload_n 0, 1) := by decide +kernel
theorem dL_trades_81 : decode cL_trades 81 = .ok (.iload_n 2, 1) := by decide +kernel
theorem dL_trades_82 : decode cL_trades 82 = .ok (.iconst 0, 1) := by decide +kernel
theorem dL_trades_83 : decode cL_trades 83 = .ok (.invokevirtual 20, 3) := by decide +kernel
theorem dL_trades_86 : decode cL_trades 86 = .ok (.istore 8, 2) := by decide +kernel
theorem dL_trades_88 : decode cL_trades 88 = .ok (.aload_n 0, 1) := by decide +kernel
theorem dL_trades_89 : decode cL_trades 89 = .ok (.iconst 2, 1) := by decide +kernel
theorem dL_trades_90 : decode cL_trades 90 = .ok (.invokevirtual 34, 3) := by decide +kernel
theorem dL_trades_93 : decode cL_trades 93 = .ok (.istore 9, 2) := by decide +kernel
theorem dL_trades_95 : decode cL_trades 95 = .ok (.aload_n 0, 1) := by decide +kernel
theorem dL_trades_96 : decode cL_trades 96 = .ok (.iload_n 2, 1) := by decide +kernel
theorem dL_trades_97 : decode cL_trades 97 = .ok (.iload 4, 2) := by decide +kernel
theorem dL_trades_99 : decode cL_trades 99 = .ok (.invokevirtual 24, 3) := by decide +kernel
theorem dL_trades_102 : decode cL_trades 102 = .ok (.istore 10, 2) := by decide +kernel
theorem dL_trades_104 : decode cL_trades 104 = .ok (.aload_n 0, 1) := by decide +kernel
theorem dL_trades_105 : decode cL_trades 105 = .ok (.iload_n 3, 1) := by decide +kernel
theorem dL_trades_106 : decode cL_trades 106 = .ok (.iload 5, 2) := by decide +kernel
theorem dL_trades_108 : decode cL_trades 108 = .ok (.invokevirtual 24, 3) := by decide +kernel
theorem dL_trades_111 : decode cL_trades 111 = .ok (.istore 11, 2) := by decide +kernel
theorem dL_trades_113 : decode cL_trades 113 = .ok (.aload_n 0, 1) := by decide +kernel
theorem dL_trades_114 : decode cL_trades 114 = .ok (.iconst 4, 1) := by decide +kernel
theorem dL_trades_115 : decode cL_trades 115 = .ok (.invokevirtual 34, 3) := by decide +kernel
theorem dL_trades_118 : decode cL_trades 118 = .ok (.istore 12, 2) := by decide +kernel
theorem dL_trades_120 : decode cL_trades 120 = .ok (.aload_n 0, 1) := by decide +kernel
theorem dL_trades_121 : decode cL_trades 121 = .ok (.bipush 7, 2) := by decide +kernel
theorem dL_trades_123 : decode cL_trades 123 = .ok (.invokevirtual 34, 3) := by decide +kernel
theorem dL_trades_126 : decode cL_trades 126 = .ok (.istore 13, 2) := by decide +kernel
theorem dL_trades_128 : decode cL_trades 128 = .ok (.aload_n 0, 1) := by decide +kernel
theorem dL_trades_129 : decode cL_trades 129 = .ok (.iload_n 2, 1) := by decide +kernel
theorem dL_trades_130 : decode cL_trades 130 = .ok (.iload 4, 2) := by decide +kernel
theorem dL_trades_132 : decode cL_trades 132 = .ok (.iload 6, 2) := by decide +kernel
theorem dL_trades_134 : decode cL_trades 134 = .ok (.iload_n 3, 1) := by decide +kernel
theorem dL_trades_135 : decode cL_trades 135 = .ok (.iload 5, 2) := by decide +kernel
theorem dL_trades_137 : decode cL_trades 137 = .ok (.iload 7, 2) := by decide +kernel
theorem dL_trades_139 : decode cL_trades 139 = .ok (.invokevirtual 67, 3) := by decide +kernel
theorem dL_trades_142 : decode cL_trades 142 = .ok (.istore 14, 2) := by decide +kernel
theorem dL_trades_144 : decode cL_trades 144 = .ok (.aload_n 0, 1) := by decide +kernel
theorem dL_trades_145 : decode cL_trades 145 = .ok (.iload_n 2, 1) := by decide +kernel
theorem dL_trades_146 : decode cL_trades 146 = .ok (.iconst 0, 1) := by decide +kernel
theorem dL_trades_147 : decode cL_trades 147 = .ok (.invokevirtual 20, 3) := by decide +kernel
theorem dL_trades_150 : decode cL_trades 150 = .ok (.iload 8, 2) := by decide +kernel
theorem dL_trades_152 : decode cL_trades 152 = .ok (.isub, 1) := by decide +kernel
theorem dL_trades_153 : decode cL_trades 153 = .ok (.istore 15, 2) := by decide +kernel
theorem dL_trades_155 : decode cL_trades 155 = .ok (.aload_n 0, 1) := by decide +kernel
theorem dL_trades_156 : decode cL_trades 156 = .ok (.iconst 2, 1) := by decide +kernel
theorem dL_trades_157 : decode cL_trades 157 = .ok (.invokevirtual 34, 3) := by decide +kernel
theorem dL_trades_160 : decode cL_trades 160 = .ok (.iload 9, 2) := by decide +kernel
theorem dL_trades_162 : decode cL_trades 162 = .ok (.if_icmp .ne 66, 3) := by decide +kernel
theorem dL_trades_165 : decode cL_trades 165 = .ok (.iload 14, 2) := by decide +kernel
theorem dL_trades_167 : decode cL_trades 167 = .ok (.iconst 1, 1) := by decide +kernel
theorem dL_trades_168 : decode cL_trades 168 = .ok (.if_icmp .ne 7, 3) := by decide +kernel
theorem dL_trades_171 : decode cL_trades 171 = .ok (.iconst 1, 1) := by decide +kernel
theorem dL_trades_172 : decode cL_trades 172 = .ok (.goto 4, 3) := by decide +kernel
theorem dL_trades_175 : decode cL_trades 175 = .ok (.iconst 0, 1) := by decide +kernel
theorem dL_trades_176 : decode cL_trades 176 = .ok (.iload 10, 2) := by decide +kernel
theorem dL_trades_178 : decode cL_trades 178 = .ok (.iload 6, 2) := by decide +kernel
theorem dL_trades_180 : decode cL_trades 180 = .ok (.if_icmp .ge 7, 3) := by decide +kernel
theorem dL_trades_183 : decode cL_trades 183 = .ok (.iconst 1, 1) := by decide +kernel
theorem dL_trades_184 : decode cL_trades 184 = .ok (.goto 4, 3) := by decide +kernel
theorem dL_trades_187 : decode cL_trades 187 = .ok (.iconst 0, 1) := by decide +kernel
theorem dL_trades_188 : decode cL_trades 188 = .ok (.if_icmp .ne 40, 3) := by decide +kernel
theorem dL_trades_191 : decode cL_trades 191 = .ok (.iload 14, 2) := by decide +kernel
theorem dL_trades_193 : decode cL_trades 193 = .ok (.iconst 2, 1) := by decide +kernel
theorem dL_trades_194 : decode cL_trades 194 = .ok (.if_icmp .ne 7, 3) := by decide +kernel
theorem dL_trades_197 : decode cL_trades 197 = .ok (.iconst 1, 1) := by decide +kernel
theorem dL_trades_198 : decode cL_trades 198 = .ok (.goto 4, 3) := by decide +kernel
theorem dL_trades_201 : decode cL_trades 201 = .ok (.iconst 0, 1) := by decide +kernel
theorem dL_trades_202 : decode cL_trades 202 = .ok (.iload 10, 2) := by decide +kernel
theorem dL_trades_204 : decode cL_trades 204 = .ok (.iload 6, 2) := by decide +kernel
theorem dL_trades_206 : decode cL_trades 206 = .ok (.if_icmp .lt 14, 3) := by decide +kernel
theorem dL_trades_209 : decode cL_trades 209 = .ok (.iload 11, 2) := by decide +kernel
theorem dL_trades_211 : decode cL_trades 211 = .ok (.iload 7, 2) := by decide +kernel
theorem dL_trades_213 : decode cL_trades 213 = .ok (.if_icmp .ge 7, 3) := by decide +kernel
theorem dL_trades_216 : decode cL_trades 216 = .ok (.iconst 1, 1) := by decide +kernel
theorem dL_trades_217 : decode cL_trades 217 = .ok (.goto 4, 3) := by decide +kernel
theorem dL_trades_220 : decode cL_trades 220 = .ok (.iconst 0, 1) := by decide +kernel
theorem dL_trades_221 : decode cL_trades 221 = .ok (.if_icmp .ne 7, 3) := by decide +kernel
theorem dL_trades_224 : decode cL_trades 224 = .ok (.iconst 1, 1) := by decide +kernel
theorem dL_trades_225 : decode cL_trades 225 = .ok (.goto 4, 3) := by decide +kernel
theorem dL_trades_228 : decode cL_trades 228 = .ok (.iconst 0, 1) := by decide +kernel
theorem dL_trades_229 : decode cL_trades 229 = .ok (.istore 16, 2) := by decide +kernel
theorem dL_trades_231 : decode cL_trades 231 = .ok (.iload 16, 2) := by decide +kernel
theorem dL_trades_233 : decode cL_trades 233 = .ok (.ifCond .eq 90, 3) := by decide +kernel
theorem dL_trades_236 : decode cL_trades 236 = .ok (.iload 14, 2) := by decide +kernel
theorem dL_trades_238 : decode cL_trades 238 = .ok (.ifCond .ne 52, 3) := by decide +kernel
theorem dL_trades_241 : decode cL_trades 241 = .ok (.iload 15, 2) := by decide +kernel
theorem dL_trades_243 : decode cL_trades 243 = .ok (.aload_n 0, 1) := by decide +kernel
theorem dL_trades_244 : decode cL_trades 244 = .ok (.bipush 8, 2) := by decide +kernel
theorem dL_trades_246 : decode cL_trades 246 = .ok (.invokevirtual 34, 3) := by decide +kernel
theorem dL_trades_249 : decode cL_trades 249 = .ok (.if_icmp .gt 74, 3) := by decide +kernel
theorem dL_trades_252 : decode cL_trades 252 = .ok (.iload 15, 2) := by decide +kernel
theorem dL_trades_254 : decode cL_trades 254 = .ok (.ineg, 1) := by decide +kernel
theorem dL_trades_255 : decode cL_trades 255 = .ok (.aload_n 0, 1) := by decide +kernel
theorem dL_trades_256 : decode cL_trades 256 = .ok (.bipush 8, 2) := by decide +kernel
theorem dL_trades_258 : decode cL_trades 258 = .ok (.invokevirtual 34, 3) := by decide +kernel
theorem dL_trades_261 : decode cL_trades 261 = .ok (.if_icmp .gt 62, 3) := by decide +kernel
theorem dL_trades_264 : decode cL_trades 264 = .ok (.aload_n 0, 1) := by decide +kernel
theorem dL_trades_265 : decode cL_trades 265 = .ok (.iconst 4, 1) := by decide +kernel
theorem dL_trades_266 : decode cL_trades 266 = .ok (.invokevirtual 34, 3) := by decide +kernel
theorem dL_trades_269 : decode cL_trades 269 = .ok (.iload 12, 2) := by decide +kernel
theorem dL_trades_271 : decode cL_trades 271 = .ok (.iconst 1, 1) := by decide +kernel
theorem dL_trades_272 : decode cL_trades 272 = .ok (.iadd, 1) := by decide +kernel
theorem dL_trades_273 : decode cL_trades 273 = .ok (.if_icmp .ne 50, 3) := by decide +kernel
theorem dL_trades_276 : decode cL_trades 276 = .ok (.aload_n 0, 1) := by decide +kernel
theorem dL_trades_277 : decode cL_trades 277 = .ok (.bipush 7, 2) := by decide +kernel
theorem dL_trades_279 : decode cL_trades 279 = .ok (.invokevirtual 34, 3) := by decide +kernel
theorem dL_trades_282 : decode cL_trades 282 = .ok (.iload 13, 2) := by decide +kernel
theorem dL_trades_284 : decode cL_trades 284 = .ok (.if_icmp .ne 39, 3) := by decide +kernel
theorem dL_trades_287 : decode cL_trades 287 = .ok (.goto 32, 3) := by decide +kernel
theorem dL_trades_290 : decode cL_trades 290 = .ok (.iload 14, 2) := by decide +kernel
theorem dL_trades_292 : decode cL_trades 292 = .ok (.ifCond .le 31, 3) := by decide +kernel
theorem dL_trades_295 : decode cL_trades 295 = .ok (.iload 14, 2) := by decide +kernel
theorem dL_trades_297 : decode cL_trades 297 = .ok (.iconst 4, 1) := by decide +kernel
theorem dL_trades_298 : decode cL_trades 298 = .ok (.if_icmp .ge 25, 3) := by decide +kernel
theorem dL_trades_301 : decode cL_trades 301 = .ok (.iload 15, 2) := by decide +kernel
theorem dL_trades_303 : decode cL_trades 303 = .ok (.ifCond .ne 20, 3) := by decide +kernel
theorem dL_trades_306 : decode cL_trades 306 = .ok (.aload_n 0, 1) := by decide +kernel
theorem dL_trades_307 : decode cL_trades 307 = .ok (.bipush 7, 2) := by decide +kernel
theorem dL_trades_309 : decode cL_trades 309 = .ok (.invokevirtual 34, 3) := by decide +kernel
theorem dL_trades_312 : decode cL_trades 312 = .ok (.iload 13, 2) := by decide +kernel
theorem dL_trades_314 : decode cL_trades 314 = .ok (.iconst 1, 1) := by decide +kernel
theorem dL_trades_315 : decode cL_trades 315 = .ok (.iadd, 1) := by decide +kernel
theorem dL_trades_316 : decode cL_trades 316 = .ok (.if_icmp .ne 7, 3) := by decide +kernel
theorem dL_trades_319 : decode cL_trades 319 = .ok (.iconst 1, 1) := by decide +kernel
theorem dL_trades_320 : decode cL_trades 320 = .ok (.goto 4, 3) := by decide +kernel
theorem dL_trades_323 : decode cL_trades 323 = .ok (.iconst 0, 1) := by decide +kernel
theorem dL_trades_324 : decode cL_trades 324 = .ok (.ireturn, 1) := by decide +kernel
theorem dL_tale_0 : decode cL_tale 0 = .ok (.ldc2_w 71, 3) := by decide +kernel
theorem dL_tale_3 : decode cL_tale 3 = .ok (.lstore_n 1, 1) := by decide +kernel
theorem dL_tale_4 : decode cL_tale 4 = .ok (.iconst 0, 1) := by decide +kernel
theorem dL_tale_5 : decode cL_tale 5 = .ok (.istore_n 3, 1) := by decide +kernel
theorem dL_tale_6 : decode cL_tale 6 = .ok (.iload_n 3, 1) := by decide +kernel
theorem dL_tale_7 : decode cL_tale 7 = .ok (.bipush 9, 2) := by decide +kernel
theorem dL_tale_9 : decode cL_tale 9 = .ok (.if_icmp .ge 22, 3) := by decide +kernel
theorem dL_tale_12 : decode cL_tale 12 = .ok (.ldc2_w 73, 3) := by decide +kernel
theorem dL_tale_15 : decode cL_tale 15 = .ok (.lload_n 1, 1) := by decide +kernel
theorem dL_tale_16 : decode cL_tale 16 = .ok (.lmul, 1) := by decide +kernel
theorem dL_tale_17 : decode cL_tale 17 = .ok (.aload_n 0, 1) := by decide +kernel
theorem dL_tale_18 : decode cL_tale 18 = .ok (.iload_n 3, 1) := by decide +kernel
theorem dL_tale_19 : decode cL_tale 19 = .ok (.invokevirtual 34, 3) := by decide +kernel
theorem dL_tale_22 : decode cL_tale 22 = .ok (.i2l, 1) := by decide +kernel
theorem dL_tale_23 : decode cL_tale 23 = .ok (.ladd, 1) := by decide +kernel
theorem dL_tale_24 : decode cL_tale 24 = .ok (.lstore_n 1, 1) := by decide +kernel
theorem dL_tale_25 : decode cL_tale 25 = .ok (.iinc 3 1, 3) := by decide +kernel
theorem dL_tale_28 : decode cL_tale 28 = .ok (.goto (-22), 3) := by decide +kernel
theorem dL_tale_31 : decode cL_tale 31 = .ok (.iconst 0, 1) := by decide +kernel
theorem dL_tale_32 : decode cL_tale 32 = .ok (.istore_n 3, 1) := by decide +kernel
theorem dL_tale_33 : decode cL_tale 33 = .ok (.iload_n 3, 1) := by decide +kernel
theorem dL_tale_34 : decode cL_tale 34 = .ok (.bipush 8, 2) := by decide +kernel
theorem dL_tale_36 : decode cL_tale 36 = .ok (.if_icmp .ge 54, 3) := by decide +kernel
theorem dL_tale_39 : decode cL_tale 39 = .ok (.iconst 0, 1) := by decide +kernel
theorem dL_tale_40 : decode cL_tale 40 = .ok (.istore 4, 2) := by decide +kernel
theorem dL_tale_42 : decode cL_tale 42 = .ok (.iload 4, 2) := by decide +kernel
theorem dL_tale_44 : decode cL_tale 44 = .ok (.iconst 5, 1) := by decide +kernel
theorem dL_tale_45 : decode cL_tale 45 = .ok (.if_icmp .ge 39, 3) := by decide +kernel
theorem dL_tale_48 : decode cL_tale 48 = .ok (.ldc2_w 73, 3) := by decide +kernel
theorem dL_tale_51 : decode cL_tale 51 = .ok (.ldc2_w 73, 3) := by decide +kernel
theorem dL_tale_54 : decode cL_tale 54 = .ok (.lload_n 1, 1) := by decide +kernel
theorem dL_tale_55 : decode cL_tale 55 = .ok (.lmul, 1) := by decide +kernel
theorem dL_tale_56 : decode cL_tale 56 = .ok (.aload_n 0, 1) := by decide +kernel
theorem dL_tale_57 : decode cL_tale 57 = .ok (.iload_n 3, 1) := by decide +kernel
theorem dL_tale_58 : decode cL_tale 58 = .ok (.iload 4, 2) := by decide +kernel
theorem dL_tale_60 : decode cL_tale 60 = .ok (.invokevirtual 20, 3) := by decide +kernel
theorem dL_tale_63 : decode cL_tale 63 = .ok (.i2l, 1) := by decide +kernel
theorem dL_tale_64 : decode cL_tale 64 = .ok (.ladd, 1) := by decide +kernel
theorem dL_tale_65 : decode cL_tale 65 = .ok (.lmul, 1) := by decide +kernel
theorem dL_tale_66 : decode cL_tale 66 = .ok (.aload_n 0, 1) := by decide +kernel
theorem dL_tale_67 : decode cL_tale 67 = .ok (.iload_n 3, 1) := by decide +kernel
theorem dL_tale_68 : decode cL_tale 68 = .ok (.iload 4, 2) := by decide +kernel
theorem dL_tale_70 : decode cL_tale 70 = .ok (.iconst 4, 1) := by decide +kernel
theorem dL_tale_71 : decode cL_tale 71 = .ok (.irem, 1) := by decide +kernel
theorem dL_tale_72 : decode cL_tale 72 = .ok (.invokevirtual 24, 3) := by decide +kernel
theorem dL_tale_75 : decode cL_tale 75 = .ok (.i2l, 1) := by decide +kernel
theorem dL_tale_76 : decode cL_tale 76 = .ok (.ladd, 1) := by decide +kernel
theorem dL_tale_77 : decode cL_tale 77 = .ok (.lstore_n 1, 1) := by decide +kernel
theorem dL_tale_78 : decode cL_tale 78 = .ok (.iinc 4 1, 3) := by decide +kernel
theorem dL_tale_81 : decode cL_tale 81 = .ok (.goto (-39), 3) := by decide +kernel
theorem dL_tale_84 : decode cL_tale 84 = .ok (.iinc 3 1, 3) := by decide +kernel
theorem dL_tale_87 : decode cL_tale 87 = .ok (.goto (-54), 3) := by decide +kernel
theorem dL_tale_90 : decode cL_tale 90 = .ok (.iconst 0, 1) := by decide +kernel
theorem dL_tale_91 : decode cL_tale 91 = .ok (.istore_n 3, 1) := by decide +kernel
theorem dL_tale_92 : decode cL_tale 92 = .ok (.iload_n 3, 1) := by decide +kernel
theorem dL_tale_93 : decode cL_tale 93 = .ok (.iconst 5, 1) := by decide +kernel
theorem dL_tale_94 : decode cL_tale 94 = .ok (.aload_n 0, 1) := by decide +kernel
theorem dL_tale_95 : decode cL_tale 95 = .ok (.iconst 3, 1) := by decide +kernel
theorem dL_tale_96 : decode cL_tale 96 = .ok (.invokevirtual 34, 3) := by decide +kernel
theorem dL_tale_99 : decode cL_tale 99 = .ok (.imul, 1) := by decide +kernel
theorem dL_tale_100 : decode cL_tale 100 = .ok (.if_icmp .ge 27, 3) := by decide +kernel
theorem dL_tale_103 : decode cL_tale 103 = .ok (.ldc2_w 73, 3) := by decide +kernel
theorem dL_tale_106 : decode cL_tale 106 = .ok (.lload_n 1, 1) := by decide +kernel
theorem dL_tale_107 : decode cL_tale 107 = .ok (.lmul, 1) := by decide +kernel
theorem dL_tale_108 : decode cL_tale 108 = .ok (.aload_n 0, 1) := by decide +kernel
theorem dL_tale_109 : decode cL_tale 109 = .ok (.iload_n 3, 1) := by decide +kernel
theorem dL_tale_110 : decode cL_tale 110 = .ok (.iconst 5, 1) := by decide +kernel
theorem dL_tale_111 : decode cL_tale 111 = .ok (.idiv, 1) := by decide +kernel
theorem dL_tale_112 : decode cL_tale 112 = .ok (.iload_n 3, 1) := by decide +kernel
theorem dL_tale_113 : decode cL_tale 113 = .ok (.iconst 5, 1) := by decide +kernel
theorem dL_tale_114 : decode cL_tale 114 = .ok (.irem, 1) := by decide +kernel
theorem dL_tale_115 : decode cL_tale 115 = .ok (.invokevirtual 41, 3) := by decide +kernel
theorem dL_tale_118 : decode cL_tale 118 = .ok (.i2l, 1) := by decide +kernel
theorem dL_tale_119 : decode cL_tale 119 = .ok (.ladd, 1) := by decide +kernel
theorem dL_tale_120 : decode cL_tale 120 = .ok (.lstore_n 1, 1) := by decide +kernel
theorem dL_tale_121 : decode cL_tale 121 = .ok (.iinc 3 1, 3) := by decide +kernel
theorem dL_tale_124 : decode cL_tale 124 = .ok (.goto (-32), 3) := by decide +kernel
theorem dL_tale_127 : decode cL_tale 127 = .ok (.lload_n 1, 1) := by decide +kernel
theorem dL_tale_128 : decode cL_tale 128 = .ok (.lreturn, 1) := by decide +kernel
theorem dL_act_0 : decode cL_act 0 = .ok (.iload_n 1, 1) := by decide +kernel
theorem dL_act_1 : decode cL_act 1 = .ok (.bipush 20, 2) := by decide +kernel
theorem dL_act_3 : decode cL_act 3 = .ok (.invokestatic 62, 3) := by decide +kernel
theorem dL_act_6 : decode cL_act 6 = .ok (.istore_n 3, 1) := by decide +kernel
theorem dL_act_7 : decode cL_act 7 = .ok (.iload_n 3, 1) := by decide +kernel
theorem dL_act_8 : decode cL_act 8 = .ok (.iconst 3, 1) := by decide +kernel
theorem dL_act_9 : decode cL_act 9 = .ok (.if_icmp .ge 8, 3) := by decide +kernel
theorem dL_act_12 : decode cL_act 12 = .ok (.aload_n 0, 1) := by decide +kernel
theorem dL_act_13 : decode cL_act 13 = .ok (.invokestatic 75, 3) := by decide +kernel
theorem dL_act_16 : decode cL_act 16 = .ok (.ireturn, 1) := by decide +kernel
theorem dL_act_17 : decode cL_act 17 = .ok (.iload_n 3, 1) := by decide +kernel
theorem dL_act_18 : decode cL_act 18 = .ok (.iconst 5, 1) := by decide +kernel
theorem dL_act_19 : decode cL_act 19 = .ok (.if_icmp .ge 111, 3) := by decide +kernel
theorem dL_act_22 : decode cL_act 22 = .ok (.iload_n 2, 1) := by decide +kernel
theorem dL_act_23 : decode cL_act 23 = .ok (.bipush 8, 2) := by decide +kernel
theorem dL_act_25 : decode cL_act 25 = .ok (.invokestatic 62, 3) := by decide +kernel
theorem dL_act_28 : decode cL_act 28 = .ok (.istore 4, 2) := by decide +kernel
theorem dL_act_30 : decode cL_act 30 = .ok (.iload_n 2, 1) := by decide +kernel
theorem dL_act_31 : decode cL_act 31 = .ok (.iconst 3, 1) := by decide +kernel
theorem dL_act_32 : decode cL_act 32 = .ok (.ishr, 1) := by decide +kernel
theorem dL_act_33 : decode cL_act 33 = .ok (.bipush 8, 2) := by decide +kernel
theorem dL_act_35 : decode cL_act 35 = .ok (.invokestatic 62, 3) := by decide +kernel
theorem dL_act_38 : decode cL_act 38 = .ok (.istore 5, 2) := by decide +kernel
theorem dL_act_40 : decode cL_act 40 = .ok (.aload_n 0, 1) := by decide +kernel
theorem dL_act_41 : decode cL_act 41 = .ok (.iload 5, 2) := by decide +kernel
theorem dL_act_43 : decode cL_act 43 = .ok (.iconst 1, 1) := by decide +kernel
theorem dL_act_44 : decode cL_act 44 = .ok (.invokevirtual 20, 3) := by decide +kernel
theorem dL_act_47 : decode cL_act 47 = .ok (.istore 6, 2) := by decide +kernel
theorem dL_act_49 : decode cL_act 49 = .ok (.aload_n 0, 1) := by decide +kernel
theorem dL_act_50 : decode cL_act 50 = .ok (.invokestatic 79, 3) := by decide +kernel
theorem dL_act_53 : decode cL_act 53 = .ok (.lstore 7, 2) := by decide +kernel
theorem dL_act_55 : decode cL_act 55 = .ok (.aload_n 0, 1) := by decide +kernel
theorem dL_act_56 : decode cL_act 56 = .ok (.iload 4, 2) := by decide +kernel
theorem dL_act_58 : decode cL_act 58 = .ok (.iload 5, 2) := by decide +kernel
theorem dL_act_60 : decode cL_act 60 = .ok (.invokevirtual 83, 3) := by decide +kernel
theorem dL_act_63 : decode cL_act 63 = .ok (.iload 6, 2) := by decide +kernel
theorem dL_act_65 : decode cL_act 65 = .ok (.if_icmp .ne 19, 3) := by decide +kernel
theorem dL_act_68 : decode cL_act 68 = .ok (.aload_n 0, 1) := by decide +kernel
theorem dL_act_69 : decode cL_act 69 = .ok (.iload 4, 2) := by decide +kernel
theorem dL_act_71 : decode cL_act 71 = .ok (.iconst 1, 1) := by decide +kernel
theorem dL_act_72 : decode cL_act 72 = .ok (.invokevirtual 20, 3) := by decide +kernel
theorem dL_act_75 : decode cL_act 75 = .ok (.iload 6, 2) := by decide +kernel
theorem dL_act_77 : decode cL_act 77 = .ok (.if_icmp .ne 7, 3) := by decide +kernel
theorem dL_act_80 : decode cL_act 80 = .ok (.iconst 1, 1) := by decide +kernel
theorem dL_act_81 : decode cL_act 81 = .ok (.goto 4, 3) := by decide +kernel
theorem dL_act_84 : decode cL_act 84 = .ok (.iconst 0, 1) := by decide +kernel
theorem dL_act_85 : decode cL_act 85 = .ok (.istore 9, 2) := by decide +kernel
theorem dL_act_87 : decode cL_act 87 = .ok (.iload 9, 2) := by decide +kernel
theorem dL_act_89 : decode cL_act 89 = .ok (.ifCond .eq 39, 3) := by decide +kernel
theorem dL_act_92 : decode cL_act 92 = .ok (.iload_n 2, 1) := by decide +kernel
theorem dL_act_93 : decode cL_act 93 = .ok (.bipush 6, 2) := by decide +kernel
theorem dL_act_95 : decode cL_act 95 = .ok (.ishr, 1) := by decide +kernel
theorem dL_act_96 : decode cL_act 96 = .ok (.iconst 2, 1) := by decide +kernel
theorem dL_act_97 : decode cL_act 97 = .ok (.invokestatic 62, 3) := by decide +kernel
theorem dL_act_100 : decode cL_act 100 = .ok (.ifCond .eq 24, 3) := by decide +kernel
theorem dL_act_103 : decode cL_act 103 = .ok (.aload_n 0, 1) := by decide +kernel
theorem dL_act_104 : decode cL_act 104 = .ok (.iload 4, 2) := by decide +kernel
theorem dL_act_106 : decode cL_act 106 = .ok (.iload 5, 2) := by decide +kernel
theorem dL_act_108 : decode cL_act 108 = .ok (.invokevirtual 83, 3) := by decide +kernel
theorem dL_act_111 : decode cL_act 111 = .ok (.ifCond .lt 17, 3) := by decide +kernel
theorem dL_act_114 : decode cL_act 114 = .ok (.aload_n 0, 1) := by decide +kernel
theorem dL_act_115 : decode cL_act 115 = .ok (.invokestatic 79, 3) := by decide +kernel
theorem dL_act_118 : decode cL_act 118 = .ok (.lload 7, 2) := by decide +kernel
theorem dL_act_120 : decode cL_act 120 = .ok (.lcmp, 1) := by decide +kernel
theorem dL_act_121 : decode cL_act 121 = .ok (.ifCond .ne 7, 3) := by decide +kernel
theorem dL_act_124 : decode cL_act 124 = .ok (.iconst 1, 1) := by decide +kernel
theorem dL_act_125 : decode cL_act 125 = .ok (.goto 4, 3) := by decide +kernel
theorem dL_act_128 : decode cL_act 128 = .ok (.iconst 0, 1) := by decide +kernel
theorem dL_act_129 : decode cL_act 129 = .ok (.ireturn, 1) := by decide +kernel
theorem dL_act_130 : decode cL_act 130 = .ok (.iload_n 3, 1) := by decide +kernel
theorem dL_act_131 : decode cL_act 131 = .ok (.bipush 9, 2) := by decide +kernel
theorem dL_act_133 : decode cL_act 133 = .ok (.if_icmp .ge 9, 3) := by decide +kernel
theorem dL_act_136 : decode cL_act 136 = .ok (.aload_n 0, 1) := by decide +kernel
theorem dL_act_137 : decode cL_act 137 = .ok (.iload_n 2, 1) := by decide +kernel
theorem dL_act_138 : decode cL_act 138 = .ok (.invokestatic 86, 3) := by decide +kernel
theorem dL_act_141 : decode cL_act 141 = .ok (.ireturn, 1) := by decide +kernel
theorem dL_act_142 : decode cL_act 142 = .ok (.iload_n 3, 1) := by decide +kernel
theorem dL_act_143 : decode cL_act 143 = .ok (.bipush 14, 2) := by decide +kernel
theorem dL_act_145 : decode cL_act 145 = .ok (.if_icmp .ge 181, 3) := by decide +kernel
theorem dL_act_148 : decode cL_act 148 = .ok (.iload_n 2, 1) := by decide +kernel
theorem dL_act_149 : decode cL_act 149 = .ok (.bipush 8, 2) := by decide +kernel
theorem dL_act_151 : decode cL_act 151 = .ok (.invokestatic 62, 3) := by decide +kernel
theorem dL_act_154 : decode cL_act 154 = .ok (.istore 4, 2) := by decide +kernel
theorem dL_act_156 : decode cL_act 156 = .ok (.iload 4, 2) := by decide +kernel
theorem dL_act_158 : decode cL_act 158 = .ok (.iconst 1, 1) := by decide +kernel
theorem dL_act_159 : decode cL_act 159 = .ok (.iadd, 1) := by decide +kernel
theorem dL_act_160 : decode cL_act 160 = .ok (.iload_n 2, 1) := by decide +kernel
theorem dL_act_161 : decode cL_act 161 = .ok (.iconst 3, 1) := by decide +kernel
theorem dL_act_162 : decode cL_act 162 = .ok (.ishr, 1) := by decide +kernel
theorem dL_act_163 : decode cL_act 163 = .ok (.bipush 7, 2) := by decide +kernel
theorem dL_act_165 : decode cL_act 165 = .ok (.invokestatic 62, 3) := by decide +kernel
theorem dL_act_168 : decode cL_act 168 = .ok (.iadd, 1) := by decide +kernel
theorem dL_act_169 : decode cL_act 169 = .ok (.bipush 8, 2) := by decide +kernel
theorem dL_act_171 : decode cL_act 171 = .ok (.irem, 1) := by decide +kernel
theorem dL_act_172 : decode cL_act 172 = .ok (.istore 5, 2) := by decide +kernel
theorem dL_act_174 : decode cL_act 174 = .ok (.iconst 1, 1) := by decide +kernel
theorem dL_act_175 : decode cL_act 175 = .ok (.iload_n 2, 1) := by decide +kernel
theorem dL_act_176 : decode cL_act 176 = .ok (.bipush 6, 2) := by decide +kernel
theorem dL_act_178 : decode cL_act 178 = .ok (.ishr, 1) := by decide +kernel
theorem dL_act_179 : decode cL_act 179 = .ok (.iload_n 2, 1) := by decide +kernel
theorem dL_act_180 : decode cL_act 180 = .ok (.bipush 20, 2) := by decide +kernel
theorem dL_act_182 : decode cL_act 182 = .ok (.ishr, 1) := by decide +kernel
theorem dL_act_183 : decode cL_act 183 = .ok (.iconst 3, 1) := by decide +kernel
theorem dL_act_184 : decode cL_act 184 = .ok (.invokestatic 62, 3) := by decide +kernel
theorem dL_act_187 : decode cL_act 187 = .ok (.ifCond .ne 8, 3) := by decide +kernel
theorem dL_act_190 : decode cL_act 190 = .ok (.bipush 99, 2) := by decide +kernel
theorem dL_act_192 : decode cL_act 192 = .ok (.goto 5, 3) := by decide +kernel
theorem dL_act_195 : decode cL_act 195 = .ok (.bipush 25, 2) := by decide +kernel
theorem dL_act_197 : decode cL_act 197 = .ok (.invokestatic 62, 3) := by decide +kernel
theorem dL_act_200 : decode cL_act 200 = .ok (.iadd, 1) := by decide +kernel
theorem dL_act_201 : decode cL_act 201 = .ok (.istore 6, 2) := by decide +kernel
theorem dL_act_203 : decode cL_act 203 = .ok (.iload_n 2, 1) := by decide +kernel
theorem dL_act_204 : decode cL_act 204 = .ok (.bipush 13, 2) := by decide +kernel
theorem dL_act_206 : decode cL_act 206 = .ok (.ishr, 1) := by decide +kernel
theorem dL_act_207 : decode cL_act 207 = .ok (.bipush 10, 2) := by decide +kernel
theorem dL_act_209 : decode cL_act 209 = .ok (.invokestatic 62, 3) := by decide +kernel
theorem dL_act_212 : decode cL_act 212 = .ok (.istore 7, 2) := by decide +kernel
theorem dL_act_214 : decode cL_act 214 = .ok (.aload_n 0, 1) := by decide +kernel
theorem dL_act_215 : decode cL_act 215 = .ok (.iconst 3, 1) := by decide +kernel
theorem dL_act_216 : decode cL_act 216 = .ok (.invokevirtual 34, 3) := by decide +kernel
theorem dL_act_219 : decode cL_act 219 = .ok (.istore 8, 2) := by decide +kernel
theorem dL_act_221 : decode cL_act 221 = .ok (.aload_n 0, 1) := by decide +kernel
theorem dL_act_222 : decode cL_act 222 = .ok (.iload 4, 2) := by decide +kernel
theorem dL_act_224 : decode cL_act 224 = .ok (.iload 5, 2) := by decide +kernel
theorem dL_act_226 : decode cL_act 226 = .ok (.invokevirtual 27, 3) := by decide +kernel
theorem dL_act_229 : decode cL_act 229 = .ok (.istore 9, 2) := by decide +kernel
theorem dL_act_231 : decode cL_act 231 = .ok (.aload_n 0, 1) := by decide +kernel
theorem dL_act_232 : decode cL_act 232 = .ok (.iload 4, 2) := by decide +kernel
theorem dL_act_234 : decode cL_act 234 = .ok (.iload 5, 2) := by decide +kernel
theorem dL_act_236 : decode cL_act 236 = .ok (.iload 6, 2) := by decide +kernel
theorem dL_act_238 : decode cL_act 238 = .ok (.iload 7, 2) := by decide +kernel
theorem dL_act_240 : decode cL_act 240 = .ok (.invokevirtual 90, 3) := by decide +kernel
theorem dL_act_243 : decode cL_act 243 = .ok (.istore 10, 2) := by decide +kernel
theorem dL_act_245 : decode cL_act 245 = .ok (.iload 8, 2) := by decide +kernel
theorem dL_act_247 : decode cL_act 247 = .ok (.bipush 8, 2) := by decide +kernel
theorem dL_act_249 : decode cL_act 249 = .ok (.if_icmp .ne 30, 3) := by decide +kernel
theorem dL_act_252 : decode cL_act 252 = .ok (.iload 10, 2) := by decide +kernel
theorem dL_act_254 : decode cL_act 254 = .ok (.iconst (-1), 1) := by decide +kernel
theorem dL_act_255 : decode cL_act 255 = .ok (.if_icmp .ne 20, 3) := by decide +kernel
theorem dL_act_258 : decode cL_act 258 = .ok (.aload_n 0, 1) := by decide +kernel
theorem dL_act_259 : decode cL_act 259 = .ok (.iload 4, 2) := by decide +kernel
theorem dL_act_261 : decode cL_act 261 = .ok (.iload 5, 2) := by decide +kernel
theorem dL_act_263 : decode cL_act 263 = .ok (.invokevirtual 27, 3) := by decide +kernel
theorem dL_act_266 : decode cL_act 266 = .ok (.iload 9, 2) := by decide +kernel
theorem dL_act_268 : decode cL_act 268 = .ok (.if_icmp .ne 7, 3) := by decide +kernel
theorem dL_act_271 : decode cL_act 271 = .ok (.iconst 1, 1) := by decide +kernel
theorem dL_act_272 : decode cL_act 272 = .ok (.goto 53, 3) := by decide +kernel
theorem dL_act_275 : decode cL_act 275 = .ok (.iconst 0, 1) := by decide +kernel
theorem dL_act_276 : decode cL_act 276 = .ok (.goto 49, 3) := by decide +kernel
theorem dL_act_279 : decode cL_act 279 = .ok (.iload 10, 2) := by decide +kernel
theorem dL_act_281 : decode cL_act 281 = .ok (.iload 8, 2) := by decide +kernel
theorem dL_act_283 : decode cL_act 283 = .ok (.if_icmp .ne 41, 3) := by decide +kernel
theorem dL_act_286 : decode cL_act 286 = .ok (.aload_n 0, 1) := by decide +kernel
theorem dL_act_287 : decode cL_act 287 = .ok (.iload 4, 2) := by decide +kernel
theorem dL_act_289 : decode cL_act 289 = .ok (.iload 5, 2) := by decide +kernel
theorem dL_act_291 : decode cL_act 291 = .ok (.invokevirtual 27, 3) := by decide +kernel
theorem dL_act_294 : decode cL_act 294 = .ok (.iload 9, 2) := by decide +kernel
theorem dL_act_296 : decode cL_act 296 = .ok (.iload 6, 2) := by decide +kernel
theorem dL_act_298 : decode cL_act 298 = .ok (.iadd, 1) := by decide +kernel
theorem dL_act_299 : decode cL_act 299 = .ok (.if_icmp .ne 25, 3) := by decide +kernel
theorem dL_act_302 : decode cL_act 302 = .ok (.aload_n 0, 1) := by decide +kernel
theorem dL_act_303 : decode cL_act 303 = .ok (.iload 8, 2) := by decide +kernel
theorem dL_act_305 : decode cL_act 305 = .ok (.iconst 3, 1) := by decide +kernel
theorem dL_act_306 : decode cL_act 306 = .ok (.invokevirtual 41, 3) := by decide +kernel
theorem dL_act_309 : decode cL_act 309 = .ok (.aload_n 0, 1) := by decide +kernel
theorem dL_act_310 : decode cL_act 310 = .ok (.iconst 0, 1) := by decide +kernel
theorem dL_act_311 : decode cL_act 311 = .ok (.invokevirtual 34, 3) := by decide +kernel
theorem dL_act_314 : decode cL_act 314 = .ok (.iload 7, 2) := by decide +kernel
theorem dL_act_316 : decode cL_act 316 = .ok (.iadd, 1) := by decide +kernel
theorem dL_act_317 : decode cL_act 317 = .ok (.if_icmp .ne 7, 3) := by decide +kernel
theorem dL_act_320 : decode cL_act 320 = .ok (.iconst 1, 1) := by decide +kernel
theorem dL_act_321 : decode cL_act 321 = .ok (.goto 4, 3) := by decide +kernel
theorem dL_act_324 : decode cL_act 324 = .ok (.iconst 0, 1) := by decide +kernel
theorem dL_act_325 : decode cL_act 325 = .ok (.ireturn, 1) := by decide +kernel
theorem dL_act_326 : decode cL_act 326 = .ok (.iload_n 3, 1) := by decide +kernel
theorem dL_act_327 : decode cL_act 327 = .ok (.bipush 16, 2) := by decide +kernel
theorem dL_act_329 : decode cL_act 329 = .ok (.if_icmp .ge 33, 3) := by decide +kernel
theorem dL_act_332 : decode cL_act 332 = .ok (.aload_n 0, 1) := by decide +kernel
theorem dL_act_333 : decode cL_act 333 = .ok (.iconst 3, 1) := by decide +kernel
theorem dL_act_334 : decode cL_act 334 = .ok (.invokevirtual 34, 3) := by decide +kernel
theorem dL_act_337 : decode cL_act 337 = .ok (.ifCond .eq 19, 3) := by decide +kernel
theorem dL_act_340 : decode cL_act 340 = .ok (.aload_n 0, 1) := by decide +kernel
theorem dL_act_341 : decode cL_act 341 = .ok (.iload_n 2, 1) := by decide +kernel
theorem dL_act_342 : decode cL_act 342 = .ok (.aload_n 0, 1) := by decide +kernel
theorem dL_act_343 : decode cL_act 343 = .ok (.iconst 3, 1) := by decide +kernel
theorem dL_act_344 : decode cL_act 344 = .ok (.invokevirtual 34, 3) := by decide +kernel
theorem dL_act_347 : decode cL_act 347 = .ok (.invokestatic 62, 3) := by decide +kernel
theorem dL_act_350 : decode cL_act 350 = .ok (.invokestatic 94, 3) := by decide +kernel
theorem dL_act_353 : decode cL_act 353 = .ok (.ifCond .eq 7, 3) := by decide +kernel
theorem dL_act_356 : decode cL_act 356 = .ok (.iconst 1, 1) := by decide +kernel
theorem dL_act_357 : decode cL_act 357 = .ok (.goto 4, 3) := by decide +kernel
theorem dL_act_360 : decode cL_act 360 = .ok (.iconst 0, 1) := by decide +kernel
theorem dL_act_361 : decode cL_act 361 = .ok (.ireturn, 1) := by decide +kernel
theorem dL_act_362 : decode cL_act 362 = .ok (.iload_n 3, 1) := by decide +kernel
theorem dL_act_363 : decode cL_act 363 = .ok (.bipush 16, 2) := by decide +kernel
theorem dL_act_365 : decode cL_act 365 = .ok (.if_icmp .ne 33, 3) := by decide +kernel
theorem dL_act_368 : decode cL_act 368 = .ok (.aload_n 0, 1) := by decide +kernel
theorem dL_act_369 : decode cL_act 369 = .ok (.iconst 3, 1) := by decide +kernel
theorem dL_act_370 : decode cL_act 370 = .ok (.invokevirtual 34, 3) := by decide +kernel
theorem dL_act_373 : decode cL_act 373 = .ok (.ifCond .eq 19, 3) := by decide +kernel
theorem dL_act_376 : decode cL_act 376 = .ok (.aload_n 0, 1) := by decide +kernel
theorem dL_act_377 : decode cL_act 377 = .ok (.iload_n 2, 1) := by decide +kernel
theorem dL_act_378 : decode cL_act 378 = .ok (.aload_n 0, 1) := by decide +kernel
theorem dL_act_379 : decode cL_act 379 = .ok (.iconst 3, 1) := by decide +kernel
theorem dL_act_380 : decode cL_act 380 = .ok (.invokevirtual 34, 3) := by decide +kernel
theorem dL_act_383 : decode cL_act 383 = .ok (.invokestatic 62, 3) := by decide +kernel
theorem dL_act_386 : decode cL_act 386 = .ok (.invokestatic 97, 3) := by decide +kernel
theorem dL_act_389 : decode cL_act 389 = .ok (.ifCond .eq 7, 3) := by decide +kernel
theorem dL_act_392 : decode cL_act 392 = .ok (.iconst 1, 1) := by decide +kernel
theorem dL_act_393 : decode cL_act 393 = .ok (.goto 4, 3) := by decide +kernel
theorem dL_act_396 : decode cL_act 396 = .ok (.iconst 0, 1) := by decide +kernel
theorem dL_act_397 : decode cL_act 397 = .ok (.ireturn, 1) := by decide +kernel
theorem dL_act_398 : decode cL_act 398 = .ok (.iload_n 3, 1) := by decide +kernel
theorem dL_act_399 : decode cL_act 399 = .ok (.bipush 19, 2) := by decide +kernel
theorem dL_act_401 : decode cL_act 401 = .ok (.if_icmp .ge 97, 3) := by decide +kernel
theorem dL_act_404 : decode cL_act 404 = .ok (.iload_n 2, 1) := by decide +kernel
theorem dL_act_405 : decode cL_act 405 = .ok (.iconst 4, 1) := by decide +kernel
theorem dL_act_406 : decode cL_act 406 = .ok (.invokestatic 62, 3) := by decide +kernel
theorem dL_act_409 : decode cL_act 409 = .ok (.istore 4, 2) := by decide +kernel
theorem dL_act_411 : decode cL_act 411 = .ok (.iconst 1, 1) := by decide +kernel
theorem dL_act_412 : decode cL_act 412 = .ok (.iload_n 2, 1) := by decide +kernel
theorem dL_act_413 : decode cL_act 413 = .ok (.iconst 2, 1) := by decide +kernel
theorem dL_act_414 : decode cL_act 414 = .ok (.ishr, 1) := by decide +kernel
theorem dL_act_415 : decode cL_act 415 = .ok (.bipush 9, 2) := by decide +kernel
theorem dL_act_417 : decode cL_act 417 = .ok (.invokestatic 62, 3) := by decide +kernel
theorem dL_act_420 : decode cL_act 420 = .ok (.iadd, 1) := by decide +kernel
theorem dL_act_421 : decode cL_act 421 = .ok (.istore 5, 2) := by decide +kernel
theorem dL_act_423 : decode cL_act 423 = .ok (.aload_n 0, 1) := by decide +kernel
theorem dL_act_424 : decode cL_act 424 = .ok (.iconst 2, 1) := by decide +kernel
theorem dL_act_425 : decode cL_act 425 = .ok (.invokevirtual 34, 3) := by decide +kernel
theorem dL_act_428 : decode cL_act 428 = .ok (.istore 6, 2) := by decide +kernel
theorem dL_act_430 : decode cL_act 430 = .ok (.aload_n 0, 1) := by decide +kernel
theorem dL_act_431 : decode cL_act 431 = .ok (.iload 4, 2) := by decide +kernel
theorem dL_act_433 : decode cL_act 433 = .ok (.iload 5, 2) := by decide +kernel
theorem dL_act_435 : decode cL_act 435 = .ok (.invokevirtual 100, 3) := by decide +kernel
theorem dL_act_438 : decode cL_act 438 = .ok (.istore 7, 2) := by decide +kernel
theorem dL_act_440 : decode cL_act 440 = .ok (.iload 7, 2) := by decide +kernel
theorem dL_act_442 : decode cL_act 442 = .ok (.iconst 1, 1) := by decide +kernel
theorem dL_act_443 : decode cL_act 443 = .ok (.if_icmp .lt 53, 3) := by decide +kernel
theorem dL_act_446 : decode cL_act 446 = .ok (.aload_n 0, 1) := by decide +kernel
theorem dL_act_447 : decode cL_act 447 = .ok (.iconst 2, 1) := by decide +kernel
theorem dL_act_448 : decode cL_act 448 = .ok (.invokevirtual 34, 3) := by decide +kernel
theorem dL_act_451 : decode cL_act 451 = .ok (.iload 6, 2) := by decide +kernel
theorem dL_act_453 : decode cL_act 453 = .ok (.bipush 20, 2) := by decide +kernel
theorem dL_act_455 : decode cL_act 455 = .ok (.iload 5, 2) := by decide +kernel
theorem dL_act_457 : decode cL_act 457 = .ok (.iload 7, 2) := by decide +kernel
theorem dL_act_459 : decode cL_act 459 = .ok (.isub, 1) := by decide +kernel
theorem dL_act_460 : decode cL_act 460 = .ok (.imul, 1) := by decide +kernel
theorem dL_act_461 : decode cL_act 461 = .ok (.iadd, 1) := by decide +kernel
theorem dL_act_462 : decode cL_act 462 = .ok (.if_icmp .ne 34, 3) := by decide +kernel
theorem dL_act_465 : decode cL_act 465 = .ok (.aload_n 0, 1) := by decide +kernel
theorem dL_act_466 : decode cL_act 466 = .ok (.iload_n 2, 1) := by decide +kernel
theorem dL_act_467 : decode cL_act 467 = .ok (.bipush 7, 2) := by decide +kernel
theorem dL_act_469 : decode cL_act 469 = .ok (.ishr, 1) := by decide +kernel
theorem dL_act_470 : decode cL_act 470 = .ok (.bipush 8, 2) := by decide +kernel
theorem dL_act_472 : decode cL_act 472 = .ok (.invokestatic 62, 3) := by decide +kernel
theorem dL_act_475 : decode cL_act 475 = .ok (.iconst 1, 1) := by decide +kernel
theorem dL_act_476 : decode cL_act 476 = .ok (.iload_n 2, 1) := by decide +kernel
theorem dL_act_477 : decode cL_act 477 = .ok (.bipush 10, 2) := by decide +kernel
theorem dL_act_479 : decode cL_act 479 = .ok (.ishr, 1) := by decide +kernel
theorem dL_act_480 : decode cL_act 480 = .ok (.bipush 99, 2) := by decide +kernel
theorem dL_act_482 : decode cL_act 482 = .ok (.invokestatic 62, 3) := by decide +kernel
theorem dL_act_485 : decode cL_act 485 = .ok (.iadd, 1) := by decide +kernel
theorem dL_act_486 : decode cL_act 486 = .ok (.invokestatic 103, 3) := by decide +kernel
theorem dL_act_489 : decode cL_act 489 = .ok (.ifCond .eq 7, 3) := by decide +kernel
theorem dL_act_492 : decode cL_act 492 = .ok (.iconst 1, 1) := by decide +kernel
theorem dL_act_493 : decode cL_act 493 = .ok (.goto 4, 3) := by decide +kernel
theorem dL_act_496 : decode cL_act 496 = .ok (.iconst 0, 1) := by decide +kernel
theorem dL_act_497 : decode cL_act 497 = .ok (.ireturn, 1) := by decide +kernel
theorem dL_act_498 : decode cL_act 498 = .ok (.aload_n 0, 1) := by decide +kernel
theorem dL_act_499 : decode cL_act 499 = .ok (.bipush 8, 2) := by decide +kernel
theorem dL_act_501 : decode cL_act 501 = .ok (.invokevirtual 34, 3) := by decide +kernel
theorem dL_act_504 : decode cL_act 504 = .ok (.istore 4, 2) := by decide +kernel
theorem dL_act_506 : decode cL_act 506 = .ok (.aload_n 0, 1) := by decide +kernel
theorem dL_act_507 : decode cL_act 507 = .ok (.iload_n 2, 1) := by decide +kernel
theorem dL_act_508 : decode cL_act 508 = .ok (.bipush 10, 2) := by decide +kernel
theorem dL_act_510 : decode cL_act 510 = .ok (.invokestatic 62, 3) := by decide +kernel
theorem dL_act_513 : decode cL_act 513 = .ok (.invokevirtual 107, 3) := by decide +kernel
theorem dL_act_516 : decode cL_act 516 = .ok (.iload 4, 2) := by decide +kernel
theorem dL_act_518 : decode cL_act 518 = .ok (.if_icmp .ne 22, 3) := by decide +kernel
theorem dL_act_521 : decode cL_act 521 = .ok (.aload_n 0, 1) := by decide +kernel
theorem dL_act_522 : decode cL_act 522 = .ok (.bipush 8, 2) := by decide +kernel
theorem dL_act_524 : decode cL_act 524 = .ok (.invokevirtual 34, 3) := by decide +kernel
theorem dL_act_527 : decode cL_act 527 = .ok (.iload_n 2, 1) := by decide +kernel
theorem dL_act_528 : decode cL_act 528 = .ok (.bipush 10, 2) := by decide +kernel
theorem dL_act_530 : decode cL_act 530 = .ok (.invokestatic 62, 3) := by decide +kernel
theorem dL_act_533 : decode cL_act 533 = .ok (.if_icmp .ne 7, 3) := by decide +kernel
theorem dL_act_536 : decode cL_act 536 = .ok (.iconst 1, 1) := by decide +kernel
theorem dL_act_537 : decode cL_act 537 = .ok (.goto 4, 3) := by decide +kernel
theorem dL_act_540 : decode cL_act 540 = .ok (.iconst 0, 1) := by decide +kernel
theorem dL_act_541 : decode cL_act 541 = .ok (.ireturn, 1) := by decide +kernel
theorem dL_law_0 : decode cL_law 0 = .ok (.new 11, 3) := by decide +kernel
theorem dL_law_3 : decode cL_law 3 = .ok (.dup, 1) := by decide +kernel
theorem dL_law_4 : decode cL_law 4 = .ok (.invokespecial 110, 3) := by decide +kernel
theorem dL_law_7 : decode cL_law 7 = .ok (.astore_n 1, 1) := by decide +kernel
theorem dL_law_8 : decode cL_law 8 = .ok (.aload_n 1, 1) := by decide +kernel
theorem dL_law_9 : decode cL_law 9 = .ok (.invokestatic 111, 3) := by decide +kernel
theorem dL_law_12 : decode cL_law 12 = .ok (.ifCond .eq 21, 3) := by decide +kernel
theorem dL_law_15 : decode cL_law 15 = .ok (.aload_n 1, 1) := by decide +kernel
theorem dL_law_16 : decode cL_law 16 = .ok (.invokevirtual 10, 3) := by decide +kernel
theorem dL_law_19 : decode cL_law 19 = .ok (.iconst 3, 1) := by decide +kernel
theorem dL_law_20 : decode cL_law 20 = .ok (.if_icmp .ne 13, 3) := by decide +kernel
theorem dL_law_23 : decode cL_law 23 = .ok (.aload_n 1, 1) := by decide +kernel
theorem dL_law_24 : decode cL_law 24 = .ok (.iconst 0, 1) := by decide +kernel
theorem dL_law_25 : decode cL_law 25 = .ok (.invokevirtual 16, 3) := by decide +kernel
theorem dL_law_28 : decode cL_law 28 = .ok (.bipush 8, 2) := by decide +kernel
theorem dL_law_30 : decode cL_law 30 = .ok (.if_icmp .eq 5, 3) := by decide +kernel
theorem dL_law_33 : decode cL_law 33 = .ok (.iconst 0, 1) := by decide +kernel
theorem dL_law_34 : decode cL_law 34 = .ok (.ireturn, 1) := by decide +kernel
theorem dL_law_35 : decode cL_law 35 = .ok (.iconst 0, 1) := by decide +kernel
theorem dL_law_36 : decode cL_law 36 = .ok (.istore_n 2, 1) := by decide +kernel
theorem dL_law_37 : decode cL_law 37 = .ok (.iload_n 2, 1) := by decide +kernel
theorem dL_law_38 : decode cL_law 38 = .ok (.bipush 44, 2) := by decide +kernel
theorem dL_law_40 : decode cL_law 40 = .ok (.if_icmp .ge 82, 3) := by decide +kernel
theorem dL_law_43 : decode cL_law 43 = .ok (.aload_n 0, 1) := by decide +kernel
theorem dL_law_44 : decode cL_law 44 = .ok (.iconst 2, 1) := by decide +kernel
theorem dL_law_45 : decode cL_law 45 = .ok (.iload_n 2, 1) := by decide +kernel
theorem dL_law_46 : decode cL_law 46 = .ok (.imul, 1) := by decide +kernel
theorem dL_law_47 : decode cL_law 47 = .ok (.iconst 1, 1) := by decide +kernel
theorem dL_law_48 : decode cL_law 48 = .ok (.iadd, 1) := by decide +kernel
theorem dL_law_49 : decode cL_law 49 = .ok (.invokestatic 114, 3) := by decide +kernel
theorem dL_law_52 : decode cL_law 52 = .ok (.istore_n 3, 1) := by decide +kernel
theorem dL_law_53 : decode cL_law 53 = .ok (.aload_n 1, 1) := by decide +kernel
theorem dL_law_54 : decode cL_law 54 = .ok (.aload_n 0, 1) := by decide +kernel
theorem dL_law_55 : decode cL_law 55 = .ok (.iconst 2, 1) := by decide +kernel
theorem dL_law_56 : decode cL_law 56 = .ok (.iload_n 2, 1) := by decide +kernel
theorem dL_law_57 : decode cL_law 57 = .ok (.imul, 1) := by decide +kernel
theorem dL_law_58 : decode cL_law 58 = .ok (.invokestatic 114, 3) := by decide +kernel
theorem dL_law_61 : decode cL_law 61 = .ok (.iload_n 3, 1) := by decide +kernel
theorem dL_law_62 : decode cL_law 62 = .ok (.invokestatic 118, 3) := by decide +kernel
theorem dL_law_65 : decode cL_law 65 = .ok (.ifCond .eq 49, 3) := by decide +kernel
theorem dL_law_68 : decode cL_law 68 = .ok (.aload_n 1, 1) := by decide +kernel
theorem dL_law_69 : decode cL_law 69 = .ok (.invokestatic 121, 3) := by decide +kernel
theorem dL_law_72 : decode cL_law 72 = .ok (.ifCond .eq 42, 3) := by decide +kernel
theorem dL_law_75 : decode cL_law 75 = .ok (.iload_n 2, 1) := by decide +kernel
theorem dL_law_76 : decode cL_law 76 = .ok (.iconst 3, 1) := by decide +kernel
theorem dL_law_77 : decode cL_law 77 = .ok (.irem, 1) := by decide +kernel
theorem dL_law_78 : decode cL_law 78 = .ok (.iconst 2, 1) := by decide +kernel
theorem dL_law_79 : decode cL_law 79 = .ok (.if_icmp .ne 10, 3) := by decide +kernel
theorem dL_law_82 : decode cL_law 82 = .ok (.aload_n 1, 1) := by decide +kernel
theorem dL_law_83 : decode cL_law 83 = .ok (.invokestatic 111, 3) := by decide +kernel
theorem dL_law_86 : decode cL_law 86 = .ok (.ifCond .eq 28, 3) := by decide +kernel
theorem dL_law_89 : decode cL_law 89 = .ok (.aload_n 1, 1) := by decide +kernel
theorem dL_law_90 : decode cL_law 90 = .ok (.iload_n 3, 1) := by decide +kernel
theorem dL_law_91 : decode cL_law 91 = .ok (.iconst 2, 1) := by decide +kernel
theorem dL_law_92 : decode cL_law 92 = .ok (.ishr, 1) := by decide +kernel
theorem dL_law_93 : decode cL_law 93 = .ok (.bipush 8, 2) := by decide +kernel
theorem dL_law_95 : decode cL_law 95 = .ok (.invokestatic 62, 3) := by decide +kernel
theorem dL_law_98 : decode cL_law 98 = .ok (.iconst 1, 1) := by decide +kernel
theorem dL_law_99 : decode cL_law 99 = .ok (.iload_n 3, 1) := by decide +kernel
theorem dL_law_100 : decode cL_law 100 = .ok (.iconst 5, 1) := by decide +kernel
theorem dL_law_101 : decode cL_law 101 = .ok (.ishr, 1) := by decide +kernel
theorem dL_law_102 : decode cL_law 102 = .ok (.bipush 99, 2) := by decide +kernel
theorem dL_law_104 : decode cL_law 104 = .ok (.invokestatic 62, 3) := by decide +kernel
theorem dL_law_107 : decode cL_law 107 = .ok (.iadd, 1) := by decide +kernel
theorem dL_law_108 : decode cL_law 108 = .ok (.invokestatic 103, 3) := by decide +kernel
theorem dL_law_111 : decode cL_law 111 = .ok (.ifCond .ne 5, 3) := by decide +kernel
theorem dL_law_114 : decode cL_law 114 = .ok (.iconst 0, 1) := by decide +kernel
theorem dL_law_115 : decode cL_law 115 = .ok (.ireturn, 1) := by decide +kernel
theorem dL_law_116 : decode cL_law 116 = .ok (.iinc 2 1, 3) := by decide +kernel
theorem dL_law_119 : decode cL_law 119 = .ok (.goto (-82), 3) := by decide +kernel
theorem dL_law_122 : decode cL_law 122 = .ok (.aload_n 1, 1) := by decide +kernel
theorem dL_law_123 : decode cL_law 123 = .ok (.invokestatic 111, 3) := by decide +kernel
theorem dL_law_126 : decode cL_law 126 = .ok (.ireturn, 1) := by decide +kernel
