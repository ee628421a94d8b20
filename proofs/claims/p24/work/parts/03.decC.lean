theorem dL_cell_0 : decode cL_cell 0 = .ok (.iload_n 1, 1) := by decide +kernel
theorem dL_cell_1 : decode cL_cell 1 = .ok (.aload_n 0, 1) := by decide +kernel
theorem dL_cell_2 : decode cL_cell 2 = .ok (.arraylength, 1) := by decide +kernel
theorem dL_cell_3 : decode cL_cell 3 = .ok (.if_icmp .ge 9, 3) := by decide +kernel
theorem dL_cell_6 : decode cL_cell 6 = .ok (.aload_n 0, 1) := by decide +kernel
theorem dL_cell_7 : decode cL_cell 7 = .ok (.iload_n 1, 1) := by decide +kernel
theorem dL_cell_8 : decode cL_cell 8 = .ok (.iaload, 1) := by decide +kernel
theorem dL_cell_9 : decode cL_cell 9 = .ok (.goto 11, 3) := by decide +kernel
theorem dL_cell_12 : decode cL_cell 12 = .ok (.ldc 7, 2) := by decide +kernel
theorem dL_cell_14 : decode cL_cell 14 = .ok (.iload_n 1, 1) := by decide +kernel
theorem dL_cell_15 : decode cL_cell 15 = .ok (.imul, 1) := by decide +kernel
theorem dL_cell_16 : decode cL_cell 16 = .ok (.sipush 20011, 3) := by decide +kernel
theorem dL_cell_19 : decode cL_cell 19 = .ok (.iadd, 1) := by decide +kernel
theorem dL_cell_20 : decode cL_cell 20 = .ok (.ireturn, 1) := by decide +kernel
theorem dL_low_0 : decode cL_low 0 = .ok (.iload_n 0, 1) := by decide +kernel
theorem dL_low_1 : decode cL_low 1 = .ok (.ldc 8, 2) := by decide +kernel
theorem dL_low_3 : decode cL_low 3 = .ok (.iand, 1) := by decide +kernel
theorem dL_low_4 : decode cL_low 4 = .ok (.iload_n 1, 1) := by decide +kernel
theorem dL_low_5 : decode cL_low 5 = .ok (.irem, 1) := by decide +kernel
theorem dL_low_6 : decode cL_low 6 = .ok (.ireturn, 1) := by decide +kernel
theorem dL_size_0 : decode cL_size 0 = .ok (.iconst 0, 1) := by decide +kernel
theorem dL_size_1 : decode cL_size 1 = .ok (.istore_n 1, 1) := by decide +kernel
theorem dL_size_2 : decode cL_size 2 = .ok (.iconst 0, 1) := by decide +kernel
theorem dL_size_3 : decode cL_size 3 = .ok (.istore_n 2, 1) := by decide +kernel
theorem dL_size_4 : decode cL_size 4 = .ok (.iload_n 2, 1) := by decide +kernel
theorem dL_size_5 : decode cL_size 5 = .ok (.bipush 16, 2) := by decide +kernel
theorem dL_size_7 : decode cL_size 7 = .ok (.if_icmp .ge 17, 3) := by decide +kernel
theorem dL_size_10 : decode cL_size 10 = .ok (.iload_n 1, 1) := by decide +kernel
theorem dL_size_11 : decode cL_size 11 = .ok (.iload_n 0, 1) := by decide +kernel
theorem dL_size_12 : decode cL_size 12 = .ok (.iload_n 2, 1) := by decide +kernel
theorem dL_size_13 : decode cL_size 13 = .ok (.ishr, 1) := by decide +kernel
theorem dL_size_14 : decode cL_size 14 = .ok (.iconst 1, 1) := by decide +kernel
theorem dL_size_15 : decode cL_size 15 = .ok (.iand, 1) := by decide +kernel
theorem dL_size_16 : decode cL_size 16 = .ok (.iadd, 1) := by decide +kernel
theorem dL_size_17 : decode cL_size 17 = .ok (.istore_n 1, 1) := by decide +kernel
theorem dL_size_18 : decode cL_size 18 = .ok (.iinc 2 1, 3) := by decide +kernel
theorem dL_size_21 : decode cL_size 21 = .ok (.goto (-17), 3) := by decide +kernel
theorem dL_size_24 : decode cL_size 24 = .ok (.iload_n 1, 1) := by decide +kernel
theorem dL_size_25 : decode cL_size 25 = .ok (.ireturn, 1) := by decide +kernel
theorem dL_told_0 : decode cL_told 0 = .ok (.iconst 0, 1) := by decide +kernel
theorem dL_told_1 : decode cL_told 1 = .ok (.istore_n 1, 1) := by decide +kernel
theorem dL_told_2 : decode cL_told 2 = .ok (.iconst 0, 1) := by decide +kernel
theorem dL_told_3 : decode cL_told 3 = .ok (.istore_n 2, 1) := by decide +kernel
theorem dL_told_4 : decode cL_told 4 = .ok (.iconst 0, 1) := by decide +kernel
theorem dL_told_5 : decode cL_told 5 = .ok (.istore_n 3, 1) := by decide +kernel
theorem dL_told_6 : decode cL_told 6 = .ok (.iconst 0, 1) := by decide +kernel
theorem dL_told_7 : decode cL_told 7 = .ok (.istore 4, 2) := by decide +kernel
theorem dL_told_9 : decode cL_told 9 = .ok (.iload 4, 2) := by decide +kernel
theorem dL_told_11 : decode cL_told 11 = .ok (.aload_n 0, 1) := by decide +kernel
theorem dL_told_12 : decode cL_told 12 = .ok (.iconst 1, 1) := by decide +kernel
theorem dL_told_13 : decode cL_told 13 = .ok (.invokevirtual 9, 3) := by decide +kernel
theorem dL_told_16 : decode cL_told 16 = .ok (.if_icmp .ge 328, 3) := by decide +kernel
theorem dL_told_19 : decode cL_told 19 = .ok (.iconst 5, 1) := by decide +kernel
theorem dL_told_20 : decode cL_told 20 = .ok (.newarray .int, 2) := by decide +kernel
theorem dL_told_22 : decode cL_told 22 = .ok (.astore 5, 2) := by decide +kernel
theorem dL_told_24 : decode cL_told 24 = .ok (.iconst 0, 1) := by decide +kernel
theorem dL_told_25 : decode cL_told 25 = .ok (.istore 6, 2) := by decide +kernel
theorem dL_told_27 : decode cL_told 27 = .ok (.iconst 0, 1) := by decide +kernel
theorem dL_told_28 : decode cL_told 28 = .ok (.istore 7, 2) := by decide +kernel
theorem dL_told_30 : decode cL_told 30 = .ok (.iconst 0, 1) := by decide +kernel
theorem dL_told_31 : decode cL_told 31 = .ok (.istore 8, 2) := by decide +kernel
theorem dL_told_33 : decode cL_told 33 = .ok (.iload 8, 2) := by decide +kernel
theorem dL_told_35 : decode cL_told 35 = .ok (.bipush 16, 2) := by decide +kernel
theorem dL_told_37 : decode cL_told 37 = .ok (.if_icmp .ge 177, 3) := by decide +kernel
theorem dL_told_40 : decode cL_told 40 = .ok (.aload_n 0, 1) := by decide +kernel
theorem dL_told_41 : decode cL_told 41 = .ok (.iload 4, 2) := by decide +kernel
theorem dL_told_43 : decode cL_told 43 = .ok (.iload 8, 2) := by decide +kernel
theorem dL_told_45 : decode cL_told 45 = .ok (.iconst 0, 1) := by decide +kernel
theorem dL_told_46 : decode cL_told 46 = .ok (.invokevirtual 15, 3) := by decide +kernel
theorem dL_told_49 : decode cL_told 49 = .ok (.istore 9, 2) := by decide +kernel
theorem dL_told_51 : decode cL_told 51 = .ok (.iload 8, 2) := by decide +kernel
theorem dL_told_53 : decode cL_told 53 = .ok (.aload_n 0, 1) := by decide +kernel
theorem dL_told_54 : decode cL_told 54 = .ok (.iload 4, 2) := by decide +kernel
theorem dL_told_56 : decode cL_told 56 = .ok (.iconst 0, 1) := by decide +kernel
theorem dL_told_57 : decode cL_told 57 = .ok (.invokevirtual 19, 3) := by decide +kernel
theorem dL_told_60 : decode cL_told 60 = .ok (.if_icmp .ge 7, 3) := by decide +kernel
theorem dL_told_63 : decode cL_told 63 = .ok (.iconst 1, 1) := by decide +kernel
theorem dL_told_64 : decode cL_told 64 = .ok (.goto 4, 3) := by decide +kernel
theorem dL_told_67 : decode cL_told 67 = .ok (.iconst 0, 1) := by decide +kernel
theorem dL_told_68 : decode cL_told 68 = .ok (.istore 10, 2) := by decide +kernel
theorem dL_told_70 : decode cL_told 70 = .ok (.iload 9, 2) := by decide +kernel
theorem dL_told_72 : decode cL_told 72 = .ok (.ifCond .ge 11, 3) := by decide +kernel
theorem dL_told_75 : decode cL_told 75 = .ok (.iload 10, 2) := by decide +kernel
theorem dL_told_77 : decode cL_told 77 = .ok (.ifCond .eq 19, 3) := by decide +kernel
theorem dL_told_80 : decode cL_told 80 = .ok (.goto 14, 3) := by decide +kernel
theorem dL_told_83 : decode cL_told 83 = .ok (.iload 10, 2) := by decide +kernel
theorem dL_told_85 : decode cL_told 85 = .ok (.ifCond .ne 11, 3) := by decide +kernel
theorem dL_told_88 : decode cL_told 88 = .ok (.iload 9, 2) := by decide +kernel
theorem dL_told_90 : decode cL_told 90 = .ok (.iconst 3, 1) := by decide +kernel
theorem dL_told_91 : decode cL_told 91 = .ok (.if_icmp .eq 5, 3) := by decide +kernel
theorem dL_told_94 : decode cL_told 94 = .ok (.iconst 0, 1) := by decide +kernel
theorem dL_told_95 : decode cL_told 95 = .ok (.ireturn, 1) := by decide +kernel
theorem dL_told_96 : decode cL_told 96 = .ok (.iload 9, 2) := by decide +kernel
theorem dL_told_98 : decode cL_told 98 = .ok (.ifCond .ge 6, 3) := by decide +kernel
theorem dL_told_101 : decode cL_told 101 = .ok (.goto 107, 3) := by decide +kernel
theorem dL_told_104 : decode cL_told 104 = .ok (.aload 5, 2) := by decide +kernel
theorem dL_told_106 : decode cL_told 106 = .ok (.iload 9, 2) := by decide +kernel
theorem dL_told_108 : decode cL_told 108 = .ok (.dup2, 1) := by decide +kernel
theorem dL_told_109 : decode cL_told 109 = .ok (.iaload, 1) := by decide +kernel
theorem dL_told_110 : decode cL_told 110 = .ok (.iconst 1, 1) := by decide +kernel
theorem dL_told_111 : decode cL_told 111 = .ok (.iload 8, 2) := by decide +kernel
theorem dL_told_113 : decode cL_told 113 = .ok (.ishl, 1) := by decide +kernel
theorem dL_told_114 : decode cL_told 114 = .ok (.ior, 1) := by decide +kernel
theorem dL_told_115 : decode cL_told 115 = .ok (.iastore, 1) := by decide +kernel
theorem dL_told_116 : decode cL_told 116 = .ok (.iload 6, 2) := by decide +kernel
theorem dL_told_118 : decode cL_told 118 = .ok (.aload_n 0, 1) := by decide +kernel
theorem dL_told_119 : decode cL_told 119 = .ok (.iload 4, 2) := by decide +kernel
theorem dL_told_121 : decode cL_told 121 = .ok (.iload 8, 2) := by decide +kernel
theorem dL_told_123 : decode cL_told 123 = .ok (.iconst 3, 1) := by decide +kernel
theorem dL_told_124 : decode cL_told 124 = .ok (.invokevirtual 15, 3) := by decide +kernel
theorem dL_told_127 : decode cL_told 127 = .ok (.iload 8, 2) := by decide +kernel
theorem dL_told_129 : decode cL_told 129 = .ok (.ishl, 1) := by decide +kernel
theorem dL_told_130 : decode cL_told 130 = .ok (.ior, 1) := by decide +kernel
theorem dL_told_131 : decode cL_told 131 = .ok (.istore 6, 2) := by decide +kernel
theorem dL_told_133 : decode cL_told 133 = .ok (.iload 7, 2) := by decide +kernel
theorem dL_told_135 : decode cL_told 135 = .ok (.iload 10, 2) := by decide +kernel
theorem dL_told_137 : decode cL_told 137 = .ok (.ifCond .eq 28, 3) := by decide +kernel
theorem dL_told_140 : decode cL_told 140 = .ok (.iload 9, 2) := by decide +kernel
theorem dL_told_142 : decode cL_told 142 = .ok (.iconst 1, 1) := by decide +kernel
theorem dL_told_143 : decode cL_told 143 = .ok (.if_icmp .eq 22, 3) := by decide +kernel
theorem dL_told_146 : decode cL_told 146 = .ok (.aload_n 0, 1) := by decide +kernel
theorem dL_told_147 : decode cL_told 147 = .ok (.iload 4, 2) := by decide +kernel
theorem dL_told_149 : decode cL_told 149 = .ok (.iload 8, 2) := by decide +kernel
theorem dL_told_151 : decode cL_told 151 = .ok (.iconst 3, 1) := by decide +kernel
theorem dL_told_152 : decode cL_told 152 = .ok (.invokevirtual 15, 3) := by decide +kernel
theorem dL_told_155 : decode cL_told 155 = .ok (.ifCond .ne 10, 3) := by decide +kernel
theorem dL_told_158 : decode cL_told 158 = .ok (.iconst 1, 1) := by decide +kernel
theorem dL_told_159 : decode cL_told 159 = .ok (.iload 8, 2) := by decide +kernel
theorem dL_told_161 : decode cL_told 161 = .ok (.ishl, 1) := by decide +kernel
theorem dL_told_162 : decode cL_told 162 = .ok (.goto 4, 3) := by decide +kernel
theorem dL_told_165 : decode cL_told 165 = .ok (.iconst 0, 1) := by decide +kernel
theorem dL_told_166 : decode cL_told 166 = .ok (.ior, 1) := by decide +kernel
theorem dL_told_167 : decode cL_told 167 = .ok (.istore 7, 2) := by decide +kernel
theorem dL_told_169 : decode cL_told 169 = .ok (.iload 9, 2) := by decide +kernel
theorem dL_told_171 : decode cL_told 171 = .ok (.iconst 3, 1) := by decide +kernel
theorem dL_told_172 : decode cL_told 172 = .ok (.if_icmp .ge 15, 3) := by decide +kernel
theorem dL_told_175 : decode cL_told 175 = .ok (.aload_n 0, 1) := by decide +kernel
theorem dL_told_176 : decode cL_told 176 = .ok (.iload 4, 2) := by decide +kernel
theorem dL_told_178 : decode cL_told 178 = .ok (.iload 8, 2) := by decide +kernel
theorem dL_told_180 : decode cL_told 180 = .ok (.iconst 1, 1) := by decide +kernel
theorem dL_told_181 : decode cL_told 181 = .ok (.invokevirtual 15, 3) := by decide +kernel
theorem dL_told_184 : decode cL_told 184 = .ok (.ifCond .ne 22, 3) := by decide +kernel
theorem dL_told_187 : decode cL_told 187 = .ok (.iload 9, 2) := by decide +kernel
theorem dL_told_189 : decode cL_told 189 = .ok (.iconst 3, 1) := by decide +kernel
theorem dL_told_190 : decode cL_told 190 = .ok (.if_icmp .ne 18, 3) := by decide +kernel
theorem dL_told_193 : decode cL_told 193 = .ok (.aload_n 0, 1) := by decide +kernel
theorem dL_told_194 : decode cL_told 194 = .ok (.iload 4, 2) := by decide +kernel
theorem dL_told_196 : decode cL_told 196 = .ok (.iload 8, 2) := by decide +kernel
theorem dL_told_198 : decode cL_told 198 = .ok (.iconst 1, 1) := by decide +kernel
theorem dL_told_199 : decode cL_told 199 = .ok (.invokevirtual 15, 3) := by decide +kernel
theorem dL_told_202 : decode cL_told 202 = .ok (.iconst 1, 1) := by decide +kernel
theorem dL_told_203 : decode cL_told 203 = .ok (.if_icmp .ge 5, 3) := by decide +kernel
theorem dL_told_206 : decode cL_told 206 = .ok (.iconst 0, 1) := by decide +kernel
theorem dL_told_207 : decode cL_told 207 = .ok (.ireturn, 1) := by decide +kernel
theorem dL_told_208 : decode cL_told 208 = .ok (.iinc 8 1, 3) := by decide +kernel
theorem dL_told_211 : decode cL_told 211 = .ok (.goto (-178), 3) := by decide +kernel
theorem dL_told_214 : decode cL_told 214 = .ok (.iconst 0, 1) := by decide +kernel
theorem dL_told_215 : decode cL_told 215 = .ok (.istore 8, 2) := by decide +kernel
theorem dL_told_217 : decode cL_told 217 = .ok (.iload 8, 2) := by decide +kernel
theorem dL_told_219 : decode cL_told 219 = .ok (.iconst 5, 1) := by decide +kernel
theorem dL_told_220 : decode cL_told 220 = .ok (.if_icmp .ge 29, 3) := by decide +kernel
theorem dL_told_223 : decode cL_told 223 = .ok (.aload_n 0, 1) := by decide +kernel
theorem dL_told_224 : decode cL_told 224 = .ok (.iload 4, 2) := by decide +kernel
theorem dL_told_226 : decode cL_told 226 = .ok (.iconst 5, 1) := by decide +kernel
theorem dL_told_227 : decode cL_told 227 = .ok (.iload 8, 2) := by decide +kernel
theorem dL_told_229 : decode cL_told 229 = .ok (.iadd, 1) := by decide +kernel
theorem dL_told_230 : decode cL_told 230 = .ok (.invokevirtual 19, 3) := by decide +kernel
theorem dL_told_233 : decode cL_told 233 = .ok (.aload 5, 2) := by decide +kernel
theorem dL_told_235 : decode cL_told 235 = .ok (.iload 8, 2) := by decide +kernel
theorem dL_told_237 : decode cL_told 237 = .ok (.iaload, 1) := by decide +kernel
theorem dL_told_238 : decode cL_told 238 = .ok (.if_icmp .eq 5, 3) := by decide +kernel
theorem dL_told_241 : decode cL_told 241 = .ok (.iconst 0, 1) := by decide +kernel
theorem dL_told_242 : decode cL_told 242 = .ok (.ireturn, 1) := by decide +kernel
theorem dL_told_243 : decode cL_told 243 = .ok (.iinc 8 1, 3) := by decide +kernel
theorem dL_told_246 : decode cL_told 246 = .ok (.goto (-29), 3) := by decide +kernel
theorem dL_told_249 : decode cL_told 249 = .ok (.aload_n 0, 1) := by decide +kernel
theorem dL_told_250 : decode cL_told 250 = .ok (.iload 4, 2) := by decide +kernel
theorem dL_told_252 : decode cL_told 252 = .ok (.invokevirtual 23, 3) := by decide +kernel
theorem dL_told_255 : decode cL_told 255 = .ok (.iload 7, 2) := by decide +kernel
theorem dL_told_257 : decode cL_told 257 = .ok (.if_icmp .ne 49, 3) := by decide +kernel
theorem dL_told_260 : decode cL_told 260 = .ok (.aload_n 0, 1) := by decide +kernel
theorem dL_told_261 : decode cL_told 261 = .ok (.iload 4, 2) := by decide +kernel
theorem dL_told_263 : decode cL_told 263 = .ok (.iconst 3, 1) := by decide +kernel
theorem dL_told_264 : decode cL_told 264 = .ok (.invokevirtual 19, 3) := by decide +kernel
theorem dL_told_267 : decode cL_told 267 = .ok (.iload 7, 2) := by decide +kernel
theorem dL_told_269 : decode cL_told 269 = .ok (.invokestatic 26, 3) := by decide +kernel
theorem dL_told_272 : decode cL_told 272 = .ok (.if_icmp .ne 34, 3) := by decide +kernel
theorem dL_told_275 : decode cL_told 275 = .ok (.aload_n 0, 1) := by decide +kernel
theorem dL_told_276 : decode cL_told 276 = .ok (.iload 4, 2) := by decide +kernel
theorem dL_told_278 : decode cL_told 278 = .ok (.bipush 10, 2) := by decide +kernel
theorem dL_told_280 : decode cL_told 280 = .ok (.invokevirtual 19, 3) := by decide +kernel
theorem dL_told_283 : decode cL_told 283 = .ok (.iload 6, 2) := by decide +kernel
theorem dL_told_285 : decode cL_told 285 = .ok (.if_icmp .ne 21, 3) := by decide +kernel
theorem dL_told_288 : decode cL_told 288 = .ok (.aload_n 0, 1) := by decide +kernel
theorem dL_told_289 : decode cL_told 289 = .ok (.iload 4, 2) := by decide +kernel
theorem dL_told_291 : decode cL_told 291 = .ok (.bipush 11, 2) := by decide +kernel
theorem dL_told_293 : decode cL_told 293 = .ok (.invokevirtual 19, 3) := by decide +kernel
theorem dL_told_296 : decode cL_told 296 = .ok (.aload_n 0, 1) := by decide +kernel
theorem dL_told_297 : decode cL_told 297 = .ok (.iload 4, 2) := by decide +kernel
theorem dL_told_299 : decode cL_told 299 = .ok (.iconst 4, 1) := by decide +kernel
theorem dL_told_300 : decode cL_told 300 = .ok (.invokevirtual 19, 3) := by decide +kernel
theorem dL_told_303 : decode cL_told 303 = .ok (.if_icmp .ge 5, 3) := by decide +kernel
theorem dL_told_306 : decode cL_told 306 = .ok (.iconst 0, 1) := by decide +kernel
theorem dL_told_307 : decode cL_told 307 = .ok (.ireturn, 1) := by decide +kernel
theorem dL_told_308 : decode cL_told 308 = .ok (.iload_n 1, 1) := by decide +kernel
theorem dL_told_309 : decode cL_told 309 = .ok (.aload_n 0, 1) := by decide +kernel
theorem dL_told_310 : decode cL_told 310 = .ok (.iload 4, 2) := by decide +kernel
theorem dL_told_312 : decode cL_told 312 = .ok (.iconst 4, 1) := by decide +kernel
theorem dL_told_313 : decode cL_told 313 = .ok (.invokevirtual 19, 3) := by decide +kernel
theorem dL_told_316 : decode cL_told 316 = .ok (.iadd, 1) := by decide +kernel
theorem dL_told_317 : decode cL_told 317 = .ok (.istore_n 1, 1) := by decide +kernel
theorem dL_told_318 : decode cL_told 318 = .ok (.iload_n 2, 1) := by decide +kernel
theorem dL_told_319 : decode cL_told 319 = .ok (.aload 5, 2) := by decide +kernel
theorem dL_told_321 : decode cL_told 321 = .ok (.iconst 3, 1) := by decide +kernel
theorem dL_told_322 : decode cL_told 322 = .ok (.iaload, 1) := by decide +kernel
theorem dL_told_323 : decode cL_told 323 = .ok (.invokestatic 26, 3) := by decide +kernel
theorem dL_told_326 : decode cL_told 326 = .ok (.iadd, 1) := by decide +kernel
theorem dL_told_327 : decode cL_told 327 = .ok (.istore_n 2, 1) := by decide +kernel
theorem dL_told_328 : decode cL_told 328 = .ok (.iload_n 3, 1) := by decide +kernel
theorem dL_told_329 : decode cL_told 329 = .ok (.aload 5, 2) := by decide +kernel
theorem dL_told_331 : decode cL_told 331 = .ok (.iconst 4, 1) := by decide +kernel
theorem dL_told_332 : decode cL_told 332 = .ok (.iaload, 1) := by decide +kernel
theorem dL_told_333 : decode cL_told 333 = .ok (.invokestatic 26, 3) := by decide +kernel
theorem dL_told_336 : decode cL_told 336 = .ok (.iadd, 1) := by decide +kernel
theorem dL_told_337 : decode cL_told 337 = .ok (.istore_n 3, 1) := by decide +kernel
theorem dL_told_338 : decode cL_told 338 = .ok (.iinc 4 1, 3) := by decide +kernel
theorem dL_told_341 : decode cL_told 341 = .ok (.goto (-332), 3) := by decide +kernel
theorem dL_told_344 : decode cL_told 344 = .ok (.aload_n 0, 1) := by decide +kernel
theorem dL_told_345 : decode cL_told 345 = .ok (.iconst 2, 1) := by decide +kernel
theorem dL_told_346 : decode cL_told 346 = .ok (.invokevirtual 9, 3) := by decide +kernel
theorem dL_told_349 : decode cL_told 349 = .ok (.iload_n 1, 1) := by decide +kernel
theorem dL_told_350 : decode cL_told 350 = .ok (.if_icmp .ne 38, 3) := by decide +kernel
theorem dL_told_353 : decode cL_told 353 = .ok (.aload_n 0, 1) := by decide +kernel
theorem dL_told_354 : decode cL_told 354 = .ok (.iconst 3, 1) := by decide +kernel
theorem dL_told_355 : decode cL_told 355 = .ok (.invokevirtual 9, 3) := by decide +kernel
theorem dL_told_358 : decode cL_told 358 = .ok (.iload_n 2, 1) := by decide +kernel
theorem dL_told_359 : decode cL_told 359 = .ok (.if_icmp .ne 29, 3) := by decide +kernel
theorem dL_told_362 : decode cL_told 362 = .ok (.aload_n 0, 1) := by decide +kernel
theorem dL_told_363 : decode cL_told 363 = .ok (.iconst 4, 1) := by decide +kernel
theorem dL_told_364 : decode cL_told 364 = .ok (.invokevirtual 9, 3) := by decide +kernel
theorem dL_told_367 : decode cL_told 367 = .ok (.iload_n 3, 1) := by decide +kernel
theorem dL_told_368 : decode cL_told 368 = .ok (.if_icmp .ne 20, 3) := by decide +kernel
theorem dL_told_371 : decode cL_told 371 = .ok (.aload_n 0, 1) := by decide +kernel
theorem dL_told_372 : decode cL_told 372 = .ok (.aload_n 0, 1) := by decide +kernel
theorem dL_told_373 : decode cL_told 373 = .ok (.iconst 1, 1) := by decide +kernel
theorem dL_told_374 : decode cL_told 374 = .ok (.invokevirtual 9, 3) := by decide +kernel
theorem dL_told_377 : decode cL_told 377 = .ok (.invokevirtual 23, 3) := by decide +kernel
theorem dL_told_380 : decode cL_told 380 = .ok (.iconst (-1), 1) := by decide +kernel
theorem dL_told_381 : decode cL_told 381 = .ok (.if_icmp .ne 7, 3) := by decide +kernel
theorem dL_told_384 : decode cL_told 384 = .ok (.iconst 1, 1) := by decide +kernel
theorem dL_told_385 : decode cL_told 385 = .ok (.goto 4, 3) := by decide +kernel
theorem dL_told_388 : decode cL_told 388 = .ok (.iconst 0, 1) := by decide +kernel
theorem dL_told_389 : decode cL_told 389 = .ok (.ireturn, 1) := by decide +kernel
theorem dL_comes_0 : decode cL_comes 0 = .ok (.aload_n 0, 1) := by decide +kernel
theorem dL_comes_1 : decode cL_comes 1 = .ok (.iload_n 1, 1) := by decide +kernel
theorem dL_comes_2 : decode cL_comes 2 = .ok (.iload_n 2, 1) := by decide +kernel
theorem dL_comes_3 : decode cL_comes 3 = .ok (.iload_n 3, 1) := by decide +kernel
theorem dL_comes_4 : decode cL_comes 4 = .ok (.invokevirtual 31, 3) := by decide +kernel
theorem dL_comes_7 : decode cL_comes 7 = .ok (.istore 4, 2) := by decide +kernel
theorem dL_comes_9 : decode cL_comes 9 = .ok (.aload_n 0, 1) := by decide +kernel
theorem dL_comes_10 : decode cL_comes 10 = .ok (.iload_n 1, 1) := by decide +kernel
theorem dL_comes_11 : decode cL_comes 11 = .ok (.iload_n 2, 1) := by decide +kernel
theorem dL_comes_12 : decode cL_comes 12 = .ok (.iconst 0, 1) := by decide +kernel
theorem dL_comes_13 : decode cL_comes 13 = .ok (.invokevirtual 15, 3) := by decide +kernel
theorem dL_comes_16 : decode cL_comes 16 = .ok (.istore 5, 2) := by decide +kernel
theorem dL_comes_18 : decode cL_comes 18 = .ok (.iload_n 2, 1) := by decide +kernel
theorem dL_comes_19 : decode cL_comes 19 = .ok (.aload_n 0, 1) := by decide +kernel
theorem dL_comes_20 : decode cL_comes 20 = .ok (.iload_n 1, 1) := by decide +kernel
theorem dL_comes_21 : decode cL_comes 21 = .ok (.iconst 0, 1) := by decide +kernel
theorem dL_comes_22 : decode cL_comes 22 = .ok (.invokevirtual 19, 3) := by decide +kernel
theorem dL_comes_25 : decode cL_comes 25 = .ok (.if_icmp .ge 7, 3) := by decide +kernel
theorem dL_comes_28 : decode cL_comes 28 = .ok (.iconst 1, 1) := by decide +kernel
theorem dL_comes_29 : decode cL_comes 29 = .ok (.goto 4, 3) := by decide +kernel
theorem dL_comes_32 : decode cL_comes 32 = .ok (.iconst 0, 1) := by decide +kernel
theorem dL_comes_33 : decode cL_comes 33 = .ok (.istore 6, 2) := by decide +kernel
theorem dL_comes_35 : decode cL_comes 35 = .ok (.iload 6, 2) := by decide +kernel
theorem dL_comes_37 : decode cL_comes 37 = .ok (.ifCond .ne 7, 3) := by decide +kernel
theorem dL_comes_40 : decode cL_comes 40 = .ok (.iconst (-1), 1) := by decide +kernel
theorem dL_comes_41 : decode cL_comes 41 = .ok (.goto 48, 3) := by decide +kernel
theorem dL_comes_44 : decode cL_comes 44 = .ok (.iload 5, 2) := by decide +kernel
theorem dL_comes_46 : decode cL_comes 46 = .ok (.iconst 3, 1) := by decide +kernel
theorem dL_comes_47 : decode cL_comes 47 = .ok (.if_icmp .ne 7, 3) := by decide +kernel
theorem dL_comes_50 : decode cL_comes 50 = .ok (.iconst 1, 1) := by decide +kernel
theorem dL_comes_51 : decode cL_comes 51 = .ok (.goto 38, 3) := by decide +kernel
theorem dL_comes_54 : decode cL_comes 54 = .ok (.iload 5, 2) := by decide +kernel
theorem dL_comes_56 : decode cL_comes 56 = .ok (.iconst 1, 1) := by decide +kernel
theorem dL_comes_57 : decode cL_comes 57 = .ok (.if_icmp .ne 7, 3) := by decide +kernel
theorem dL_comes_60 : decode cL_comes 60 = .ok (.iconst 2, 1) := by decide +kernel
theorem dL_comes_61 : decode cL_comes 61 = .ok (.goto 28, 3) := by decide +kernel
theorem dL_comes_64 : decode cL_comes 64 = .ok (.iload 5, 2) := by decide +kernel
theorem dL_comes_66 : decode cL_comes 66 = .ok (.iconst 2, 1) := by decide +kernel
theorem dL_comes_67 : decode cL_comes 67 = .ok (.if_icmp .ne 7, 3) := by decide +kernel
theorem dL_comes_70 : decode cL_comes 70 = .ok (.iconst 3, 1) := by decide +kernel
theorem dL_comes_71 : decode cL_comes 71 = .ok (.goto 18, 3) := by decide +kernel
theorem dL_comes_74 : decode cL_comes 74 = .ok (.iload_n 3, 1) := by decide +kernel
theorem dL_comes_75 : decode cL_comes 75 = .ok (.aload_n 0, 1) := by decide +kernel
theorem dL_comes_76 : decode cL_comes 76 = .ok (.iload_n 1, 1) := by decide +kernel
theorem dL_comes_77 : decode cL_comes 77 = .ok (.iconst 1, 1) := by decide +kernel
theorem dL_comes_78 : decode cL_comes 78 = .ok (.invokevirtual 19, 3) := by decide +kernel
theorem dL_comes_81 : decode cL_comes 81 = .ok (.if_icmp .ne 7, 3) := by decide +kernel
theorem dL_comes_84 : decode cL_comes 84 = .ok (.iconst 0, 1) := by decide +kernel
theorem dL_comes_85 : decode cL_comes 85 = .ok (.goto 4, 3) := by decide +kernel
theorem dL_comes_88 : decode cL_comes 88 = .ok (.iconst 4, 1) := by decide +kernel
theorem dL_comes_89 : decode cL_comes 89 = .ok (.istore 7, 2) := by decide +kernel
theorem dL_comes_91 : decode cL_comes 91 = .ok (.iload 4, 2) := by decide +kernel
theorem dL_comes_93 : decode cL_comes 93 = .ok (.iload 7, 2) := by decide +kernel
theorem dL_comes_95 : decode cL_comes 95 = .ok (.if_icmp .eq 5, 3) := by decide +kernel
theorem dL_comes_98 : decode cL_comes 98 = .ok (.iconst 0, 1) := by decide +kernel
theorem dL_comes_99 : decode cL_comes 99 = .ok (.ireturn, 1) := by decide +kernel
theorem dL_comes_100 : decode cL_comes 100 = .ok (.aload_n 0, 1) := by decide +kernel
theorem dL_comes_101 : decode cL_comes 101 = .ok (.iload_n 1, 1) := by decide +kernel
theorem dL_comes_102 : decode cL_comes 102 = .ok (.bipush 6, 2) := by decide +kernel
theorem dL_comes_104 : decode cL_comes 104 = .ok (.invokevirtual 19, 3) := by decide +kernel
theorem dL_comes_107 : decode cL_comes 107 = .ok (.istore 8, 2) := by decide +kernel
theorem dL_comes_109 : decode cL_comes 109 = .ok (.aload_n 0, 1) := by decide +kernel
theorem dL_comes_110 : decode cL_comes 110 = .ok (.iload_n 1, 1) := by decide +kernel
theorem dL_comes_111 : decode cL_comes 111 = .ok (.bipush 7, 2) := by decide +kernel
theorem dL_comes_113 : decode cL_comes 113 = .ok (.invokevirtual 19, 3) := by decide +kernel
theorem dL_comes_116 : decode cL_comes 116 = .ok (.istore 9, 2) := by decide +kernel
theorem dL_comes_118 : decode cL_comes 118 = .ok (.aload_n 0, 1) := by decide +kernel
theorem dL_comes_119 : decode cL_comes 119 = .ok (.iload_n 1, 1) := by decide +kernel
theorem dL_comes_120 : decode cL_comes 120 = .ok (.invokevirtual 23, 3) := by decide +kernel
theorem dL_comes_123 : decode cL_comes 123 = .ok (.istore 10, 2) := by decide +kernel
theorem dL_comes_125 : decode cL_comes 125 = .ok (.aload_n 0, 1) := by decide +kernel
theorem dL_comes_126 : decode cL_comes 126 = .ok (.iload_n 1, 1) := by decide +kernel
theorem dL_comes_127 : decode cL_comes 127 = .ok (.iconst 4, 1) := by decide +kernel
theorem dL_comes_128 : decode cL_comes 128 = .ok (.invokevirtual 19, 3) := by decide +kernel
theorem dL_comes_131 : decode cL_comes 131 = .ok (.istore 11, 2) := by decide +kernel
theorem dL_comes_133 : decode cL_comes 133 = .ok (.aload_n 0, 1) := by decide +kernel
theorem dL_comes_134 : decode cL_comes 134 = .ok (.iload_n 1, 1) := by decide +kernel
theorem dL_comes_135 : decode cL_comes 135 = .ok (.bipush 11, 2) := by decide +kernel
theorem dL_comes_137 : decode cL_comes 137 = .ok (.invokevirtual 19, 3) := by decide +kernel
theorem dL_comes_140 : decode cL_comes 140 = .ok (.istore 12, 2) := by decide +kernel
theorem dL_comes_142 : decode cL_comes 142 = .ok (.aload_n 0, 1) := by decide +kernel
theorem dL_comes_143 : decode cL_comes 143 = .ok (.iload_n 1, 1) := by decide +kernel
theorem dL_comes_144 : decode cL_comes 144 = .ok (.iconst 1, 1) := by decide +kernel
theorem dL_comes_145 : decode cL_comes 145 = .ok (.invokevirtual 19, 3) := by decide +kernel
theorem dL_comes_148 : decode cL_comes 148 = .ok (.istore 13, 2) := by decide +kernel
theorem dL_comes_150 : decode cL_comes 150 = .ok (.aload_n 0, 1) := by decide +kernel
theorem dL_comes_151 : decode cL_comes 151 = .ok (.iload_n 1, 1) := by decide +kernel
theorem dL_comes_152 : decode cL_comes 152 = .ok (.iconst 2, 1) := by decide +kernel
theorem dL_comes_153 : decode cL_comes 153 = .ok (.invokevirtual 19, 3) := by decide +kernel
theorem dL_comes_156 : decode cL_comes 156 = .ok (.istore 14, 2) := by decide +kernel
theorem dL_comes_158 : decode cL_comes 158 = .ok (.aload_n 0, 1) := by decide +kernel
theorem dL_comes_159 : decode cL_comes 159 = .ok (.iconst 5, 1) := by decide +kernel
theorem dL_comes_160 : decode cL_comes 160 = .ok (.invokevirtual 9, 3) := by decide +kernel
theorem dL_comes_163 : decode cL_comes 163 = .ok (.istore 15, 2) := by decide +kernel
theorem dL_comes_165 : decode cL_comes 165 = .ok (.aload_n 0, 1) := by decide +kernel
theorem dL_comes_166 : decode cL_comes 166 = .ok (.iload_n 1, 1) := by decide +kernel
theorem dL_comes_167 : decode cL_comes 167 = .ok (.iload_n 2, 1) := by decide +kernel
theorem dL_comes_168 : decode cL_comes 168 = .ok (.iload_n 3, 1) := by decide +kernel
theorem dL_comes_169 : decode cL_comes 169 = .ok (.invokevirtual 34, 3) := by decide +kernel
theorem dL_comes_172 : decode cL_comes 172 = .ok (.istore 16, 2) := by decide +kernel
theorem dL_comes_174 : decode cL_comes 174 = .ok (.iload 4, 2) := by decide +kernel
theorem dL_comes_176 : decode cL_comes 176 = .ok (.ifCond .lt 14, 3) := by decide +kernel
theorem dL_comes_179 : decode cL_comes 179 = .ok (.iload 4, 2) := by decide +kernel
theorem dL_comes_181 : decode cL_comes 181 = .ok (.ifCond .le 54, 3) := by decide +kernel
theorem dL_comes_184 : decode cL_comes 184 = .ok (.iload 4, 2) := by decide +kernel
theorem dL_comes_186 : decode cL_comes 186 = .ok (.iconst 4, 1) := by decide +kernel
theorem dL_comes_187 : decode cL_comes 187 = .ok (.if_icmp .ge 48, 3) := by decide +kernel
theorem dL_comes_190 : decode cL_comes 190 = .ok (.iload 16, 2) := by decide +kernel
theorem dL_comes_192 : decode cL_comes 192 = .ok (.iload 4, 2) := by decide +kernel
theorem dL_comes_194 : decode cL_comes 194 = .ok (.ifCond .ge 7, 3) := by decide +kernel
theorem dL_comes_197 : decode cL_comes 197 = .ok (.iconst (-1), 1) := by decide +kernel
theorem dL_comes_198 : decode cL_comes 198 = .ok (.goto 5, 3) := by decide +kernel
theorem dL_comes_201 : decode cL_comes 201 = .ok (.bipush (-5), 2) := by decide +kernel
theorem dL_comes_203 : decode cL_comes 203 = .ok (.if_icmp .ne 30, 3) := by decide +kernel
theorem dL_comes_206 : decode cL_comes 206 = .ok (.aload_n 0, 1) := by decide +kernel
theorem dL_comes_207 : decode cL_comes 207 = .ok (.iload_n 1, 1) := by decide +kernel
theorem dL_comes_208 : decode cL_comes 208 = .ok (.bipush 6, 2) := by decide +kernel
theorem dL_comes_210 : decode cL_comes 210 = .ok (.invokevirtual 19, 3) := by decide +kernel
theorem dL_comes_213 : decode cL_comes 213 = .ok (.iload 8, 2) := by decide +kernel
theorem dL_comes_215 : decode cL_comes 215 = .ok (.if_icmp .ne 18, 3) := by decide +kernel
theorem dL_comes_218 : decode cL_comes 218 = .ok (.aload_n 0, 1) := by decide +kernel
theorem dL_comes_219 : decode cL_comes 219 = .ok (.iload_n 1, 1) := by decide +kernel
theorem dL_comes_220 : decode cL_comes 220 = .ok (.iconst 4, 1) := by decide +kernel
theorem dL_comes_221 : decode cL_comes 221 = .ok (.invokevirtual 19, 3) := by decide +kernel
theorem dL_comes_224 : decode cL_comes 224 = .ok (.iload 11, 2) := by decide +kernel
theorem dL_comes_226 : decode cL_comes 226 = .ok (.if_icmp .ne 7, 3) := by decide +kernel
theorem dL_comes_229 : decode cL_comes 229 = .ok (.iconst 1, 1) := by decide +kernel
theorem dL_comes_230 : decode cL_comes 230 = .ok (.goto 4, 3) := by decide +kernel
theorem dL_comes_233 : decode cL_comes 233 = .ok (.iconst 0, 1) := by decide +kernel
theorem dL_comes_234 : decode cL_comes 234 = .ok (.ireturn, 1) := by decide +kernel
theorem dL_comes_235 : decode cL_comes 235 = .ok (.iload 16, 2) := by decide +kernel
theorem dL_comes_237 : decode cL_comes 237 = .ok (.ifCond .lt 61, 3) := by decide +kernel
theorem dL_comes_240 : decode cL_comes 240 = .ok (.iload 16, 2) := by decide +kernel
theorem dL_comes_242 : decode cL_comes 242 = .ok (.iconst 3, 1) := by decide +kernel
theorem dL_comes_243 : decode cL_comes 243 = .ok (.if_icmp .gt 55, 3) := by decide +kernel
theorem dL_comes_246 : decode cL_comes 246 = .ok (.aload_n 0, 1) := by decide +kernel
theorem dL_comes_247 : decode cL_comes 247 = .ok (.iload_n 1, 1) := by decide +kernel
theorem dL_comes_248 : decode cL_comes 248 = .ok (.iconst 4, 1) := by decide +kernel
theorem dL_comes_249 : decode cL_comes 249 = .ok (.invokevirtual 19, 3) := by decide +kernel
theorem dL_comes_252 : decode cL_comes 252 = .ok (.iload 11, 2) := by decide +kernel
theorem dL_comes_254 : decode cL_comes 254 = .ok (.iload 16, 2) := by decide +kernel
theorem dL_comes_256 : decode cL_comes 256 = .ok (.iadd, 1) := by decide +kernel
theorem dL_comes_257 : decode cL_comes 257 = .ok (.if_icmp .ne 41, 3) := by decide +kernel
theorem dL_comes_260 : decode cL_comes 260 = .ok (.aload_n 0, 1) := by decide +kernel
theorem dL_comes_261 : decode cL_comes 261 = .ok (.iload_n 1, 1) := by decide +kernel
theorem dL_comes_262 : decode cL_comes 262 = .ok (.iconst 1, 1) := by decide +kernel
theorem dL_comes_263 : decode cL_comes 263 = .ok (.invokevirtual 19, 3) := by decide +kernel
theorem dL_comes_266 : decode cL_comes 266 = .ok (.iload 13, 2) := by decide +kernel
theorem dL_comes_268 : decode cL_comes 268 = .ok (.iload 16, 2) := by decide +kernel
theorem dL_comes_270 : decode cL_comes 270 = .ok (.iadd, 1) := by decide +kernel
theorem dL_comes_271 : decode cL_comes 271 = .ok (.iconst 2, 1) := by decide +kernel
theorem dL_comes_272 : decode cL_comes 272 = .ok (.irem, 1) := by decide +kernel
theorem dL_comes_273 : decode cL_comes 273 = .ok (.if_icmp .ne 25, 3) := by decide +kernel
theorem dL_comes_276 : decode cL_comes 276 = .ok (.aload_n 0, 1) := by decide +kernel
theorem dL_comes_277 : decode cL_comes 277 = .ok (.iconst 5, 1) := by decide +kernel
theorem dL_comes_278 : decode cL_comes 278 = .ok (.invokevirtual 9, 3) := by decide +kernel
theorem dL_comes_281 : decode cL_comes 281 = .ok (.iload 15, 2) := by decide +kernel
theorem dL_comes_283 : decode cL_comes 283 = .ok (.iload 4, 2) := by decide +kernel
theorem dL_comes_285 : decode cL_comes 285 = .ok (.iconst 4, 1) := by decide +kernel
theorem dL_comes_286 : decode cL_comes 286 = .ok (.if_icmp .ne 7, 3) := by decide +kernel
theorem dL_comes_289 : decode cL_comes 289 = .ok (.iconst 1, 1) := by decide +kernel
theorem dL_comes_290 : decode cL_comes 290 = .ok (.goto 4, 3) := by decide +kernel
theorem dL_comes_293 : decode cL_comes 293 = .ok (.iconst 0, 1) := by decide +kernel
theorem dL_comes_294 : decode cL_comes 294 = .ok (.iadd, 1) := by decide +kernel
theorem dL_comes_295 : decode cL_comes 295 = .ok (.if_icmp .eq 5, 3) := by decide +kernel
theorem dL_comes_298 : decode cL_comes 298 = .ok (.iconst 0, 1) := by decide +kernel
theorem dL_comes_299 : decode cL_comes 299 = .ok (.ireturn, 1) := by decide +kernel
theorem dL_comes_300 : decode cL_comes 300 = .ok (.iload 16, 2) := by decide +kernel
theorem dL_comes_302 : decode cL_comes 302 = .ok (.ifCond .ne 58, 3) := by decide +kernel
theorem dL_comes_305 : decode cL_comes 305 = .ok (.aload_n 0, 1) := by decide +kernel
theorem dL_comes_306 : decode cL_comes 306 = .ok (.iload_n 1, 1) := by decide +kernel
theorem dL_comes_307 : decode cL_comes 307 = .ok (.iload_n 2, 1) := by decide +kernel
theorem dL_comes_308 : decode cL_comes 308 = .ok (.iconst 0, 1) := by decide +kernel
theorem dL_comes_309 : decode cL_comes 309 = .ok (.invokevirtual 15, 3) := by decide +kernel
theorem dL_comes_312 : decode cL_comes 312 = .ok (.iload 4, 2) := by decide +kernel
theorem dL_comes_314 : decode cL_comes 314 = .ok (.ifCond .ne 7, 3) := by decide +kernel
theorem dL_comes_317 : decode cL_comes 317 = .ok (.iconst 1, 1) := by decide +kernel
theorem dL_comes_318 : decode cL_comes 318 = .ok (.goto 4, 3) := by decide +kernel
theorem dL_comes_321 : decode cL_comes 321 = .ok (.iconst 2, 1) := by decide +kernel
theorem dL_comes_322 : decode cL_comes 322 = .ok (.if_icmp .ne 36, 3) := by decide +kernel
theorem dL_comes_325 : decode cL_comes 325 = .ok (.aload_n 0, 1) := by decide +kernel
theorem dL_comes_326 : decode cL_comes 326 = .ok (.iload_n 1, 1) := by decide +kernel
theorem dL_comes_327 : decode cL_comes 327 = .ok (.bipush 11, 2) := by decide +kernel
theorem dL_comes_329 : decode cL_comes 329 = .ok (.invokevirtual 19, 3) := by decide +kernel
theorem dL_comes_332 : decode cL_comes 332 = .ok (.iload 12, 2) := by decide +kernel
theorem dL_comes_334 : decode cL_comes 334 = .ok (.if_icmp .ne 24, 3) := by decide +kernel
theorem dL_comes_337 : decode cL_comes 337 = .ok (.iload 4, 2) := by decide +kernel
theorem dL_comes_339 : decode cL_comes 339 = .ok (.iconst 4, 1) := by decide +kernel
theorem dL_comes_340 : decode cL_comes 340 = .ok (.if_icmp .eq 14, 3) := by decide +kernel
theorem dL_comes_343 : decode cL_comes 343 = .ok (.iload 10, 2) := by decide +kernel
theorem dL_comes_345 : decode cL_comes 345 = .ok (.iconst 1, 1) := by decide +kernel
theorem dL_comes_346 : decode cL_comes 346 = .ok (.iload_n 2, 1) := by decide +kernel
theorem dL_comes_347 : decode cL_comes 347 = .ok (.ishl, 1) := by decide +kernel
theorem dL_comes_348 : decode cL_comes 348 = .ok (.iconst (-1), 1) := by decide +kernel
theorem dL_comes_349 : decode cL_comes 349 = .ok (.ixor, 1) := by decide +kernel
theorem dL_comes_350 : decode cL_comes 350 = .ok (.iand, 1) := by decide +kernel
theorem dL_comes_351 : decode cL_comes 351 = .ok (.ifCond .eq 7, 3) := by decide +kernel
theorem dL_comes_354 : decode cL_comes 354 = .ok (.iconst 1, 1) := by decide +kernel
theorem dL_comes_355 : decode cL_comes 355 = .ok (.goto 4, 3) := by decide +kernel
theorem dL_comes_358 : decode cL_comes 358 = .ok (.iconst 0, 1) := by decide +kernel
theorem dL_comes_359 : decode cL_comes 359 = .ok (.ireturn, 1) := by decide +kernel
theorem dL_comes_360 : decode cL_comes 360 = .ok (.iload 4, 2) := by decide +kernel
theorem dL_comes_362 : decode cL_comes 362 = .ok (.ifCond .ne 14, 3) := by decide +kernel
theorem dL_comes_365 : decode cL_comes 365 = .ok (.iload 10, 2) := by decide +kernel
theorem dL_comes_367 : decode cL_comes 367 = .ok (.iconst 1, 1) := by decide +kernel
theorem dL_comes_368 : decode cL_comes 368 = .ok (.iload_n 2, 1) := by decide +kernel
theorem dL_comes_369 : decode cL_comes 369 = .ok (.ishl, 1) := by decide +kernel
theorem dL_comes_370 : decode cL_comes 370 = .ok (.iconst (-1), 1) := by decide +kernel
theorem dL_comes_371 : decode cL_comes 371 = .ok (.ixor, 1) := by decide +kernel
theorem dL_comes_372 : decode cL_comes 372 = .ok (.iand, 1) := by decide +kernel
theorem dL_comes_373 : decode cL_comes 373 = .ok (.ifCond .ne 24, 3) := by decide +kernel
theorem dL_comes_376 : decode cL_comes 376 = .ok (.aload_n 0, 1) := by decide +kernel
theorem dL_comes_377 : decode cL_comes 377 = .ok (.iload_n 1, 1) := by decide +kernel
theorem dL_comes_378 : decode cL_comes 378 = .ok (.iconst 0, 1) := by decide +kernel
theorem dL_comes_379 : decode cL_comes 379 = .ok (.invokevirtual 19, 3) := by decide +kernel
theorem dL_comes_382 : decode cL_comes 382 = .ok (.iload 14, 2) := by decide +kernel
theorem dL_comes_384 : decode cL_comes 384 = .ok (.if_icmp .ne 13, 3) := by decide +kernel
theorem dL_comes_387 : decode cL_comes 387 = .ok (.aload_n 0, 1) := by decide +kernel
theorem dL_comes_388 : decode cL_comes 388 = .ok (.iload_n 1, 1) := by decide +kernel
theorem dL_comes_389 : decode cL_comes 389 = .ok (.bipush 10, 2) := by decide +kernel
theorem dL_comes_391 : decode cL_comes 391 = .ok (.invokevirtual 19, 3) := by decide +kernel
theorem dL_comes_394 : decode cL_comes 394 = .ok (.ifCond .eq 5, 3) := by decide +kernel
theorem dL_comes_397 : decode cL_comes 397 = .ok (.iconst 0, 1) := by decide +kernel
theorem dL_comes_398 : decode cL_comes 398 = .ok (.ireturn, 1) := by decide +kernel
theorem dL_comes_399 : decode cL_comes 399 = .ok (.iload 8, 2) := by decide +kernel
theorem dL_comes_401 : decode cL_comes 401 = .ok (.iload 4, 2) := by decide +kernel
theorem dL_comes_403 : decode cL_comes 403 = .ok (.ifCond .ne 9, 3) := by decide +kernel
theorem dL_comes_406 : decode cL_comes 406 = .ok (.iconst 1, 1) := by decide +kernel
theorem dL_comes_407 : decode cL_comes 407 = .ok (.iload_n 2, 1) := by decide +kernel
theorem dL_comes_408 : decode cL_comes 408 = .ok (.ishl, 1) := by decide +kernel
theorem dL_comes_409 : decode cL_comes 409 = .ok (.goto 4, 3) := by decide +kernel
theorem dL_comes_412 : decode cL_comes 412 = .ok (.iconst 0, 1) := by decide +kernel
theorem dL_comes_413 : decode cL_comes 413 = .ok (.ior, 1) := by decide +kernel
theorem dL_comes_414 : decode cL_comes 414 = .ok (.istore 8, 2) := by decide +kernel
theorem dL_comes_416 : decode cL_comes 416 = .ok (.iconst 0, 1) := by decide +kernel
theorem dL_comes_417 : decode cL_comes 417 = .ok (.istore 17, 2) := by decide +kernel
theorem dL_comes_419 : decode cL_comes 419 = .ok (.iload 17, 2) := by decide +kernel
theorem dL_comes_421 : decode cL_comes 421 = .ok (.bipush 16, 2) := by decide +kernel
theorem dL_comes_423 : decode cL_comes 423 = .ok (.if_icmp .ge 101, 3) := by decide +kernel
theorem dL_comes_426 : decode cL_comes 426 = .ok (.iload 8, 2) := by decide +kernel
theorem dL_comes_428 : decode cL_comes 428 = .ok (.iload 17, 2) := by decide +kernel
theorem dL_comes_430 : decode cL_comes 430 = .ok (.ishr, 1) := by decide +kernel
theorem dL_comes_431 : decode cL_comes 431 = .ok (.iconst 1, 1) := by decide +kernel
theorem dL_comes_432 : decode cL_comes 432 = .ok (.iand, 1) := by decide +kernel
theorem dL_comes_433 : decode cL_comes 433 = .ok (.iconst 1, 1) := by decide +kernel
theorem dL_comes_434 : decode cL_comes 434 = .ok (.if_icmp .ne 46, 3) := by decide +kernel
theorem dL_comes_437 : decode cL_comes 437 = .ok (.aload_n 0, 1) := by decide +kernel
theorem dL_comes_438 : decode cL_comes 438 = .ok (.iload_n 1, 1) := by decide +kernel
theorem dL_comes_439 : decode cL_comes 439 = .ok (.iload 17, 2) := by decide +kernel
theorem dL_comes_441 : decode cL_comes 441 = .ok (.iconst 0, 1) := by decide +kernel
theorem dL_comes_442 : decode cL_comes 442 = .ok (.invokevirtual 15, 3) := by decide +kernel
theorem dL_comes_445 : decode cL_comes 445 = .ok (.iconst 3, 1) := by decide +kernel
theorem dL_comes_446 : decode cL_comes 446 = .ok (.if_icmp .ne 32, 3) := by decide +kernel
theorem dL_comes_449 : decode cL_comes 449 = .ok (.aload_n 0, 1) := by decide +kernel
theorem dL_comes_450 : decode cL_comes 450 = .ok (.iload_n 1, 1) := by decide +kernel
theorem dL_comes_451 : decode cL_comes 451 = .ok (.iload 17, 2) := by decide +kernel
theorem dL_comes_453 : decode cL_comes 453 = .ok (.iconst 1, 1) := by decide +kernel
theorem dL_comes_454 : decode cL_comes 454 = .ok (.invokevirtual 15, 3) := by decide +kernel
theorem dL_comes_457 : decode cL_comes 457 = .ok (.aload_n 0, 1) := by decide +kernel
theorem dL_comes_458 : decode cL_comes 458 = .ok (.bipush 7, 2) := by decide +kernel
theorem dL_comes_460 : decode cL_comes 460 = .ok (.invokevirtual 9, 3) := by decide +kernel
theorem dL_comes_463 : decode cL_comes 463 = .ok (.if_icmp .ne 15, 3) := by decide +kernel
theorem dL_comes_466 : decode cL_comes 466 = .ok (.aload_n 0, 1) := by decide +kernel
theorem dL_comes_467 : decode cL_comes 467 = .ok (.iload_n 1, 1) := by decide +kernel
theorem dL_comes_468 : decode cL_comes 468 = .ok (.iload 17, 2) := by decide +kernel
theorem dL_comes_470 : decode cL_comes 470 = .ok (.iconst 2, 1) := by decide +kernel
theorem dL_comes_471 : decode cL_comes 471 = .ok (.invokevirtual 15, 3) := by decide +kernel
theorem dL_comes_474 : decode cL_comes 474 = .ok (.iconst 1, 1) := by decide +kernel
theorem dL_comes_475 : decode cL_comes 475 = .ok (.if_icmp .ge 5, 3) := by decide +kernel
theorem dL_comes_478 : decode cL_comes 478 = .ok (.iconst 0, 1) := by decide +kernel
theorem dL_comes_479 : decode cL_comes 479 = .ok (.ireturn, 1) := by decide +kernel
theorem dL_comes_480 : decode cL_comes 480 = .ok (.iload 16, 2) := by decide +kernel
theorem dL_comes_482 : decode cL_comes 482 = .ok (.iconst 1, 1) := by decide +kernel
theorem dL_comes_483 : decode cL_comes 483 = .ok (.if_icmp .ne 35, 3) := by decide +kernel
theorem dL_comes_486 : decode cL_comes 486 = .ok (.iload 17, 2) := by decide +kernel
theorem dL_comes_488 : decode cL_comes 488 = .ok (.iload 14, 2) := by decide +kernel
theorem dL_comes_490 : decode cL_comes 490 = .ok (.if_icmp .ge 28, 3) := by decide +kernel
theorem dL_comes_493 : decode cL_comes 493 = .ok (.iload 9, 2) := by decide +kernel
theorem dL_comes_495 : decode cL_comes 495 = .ok (.iload 17, 2) := by decide +kernel
theorem dL_comes_497 : decode cL_comes 497 = .ok (.ishr, 1) := by decide +kernel
theorem dL_comes_498 : decode cL_comes 498 = .ok (.iconst 1, 1) := by decide +kernel
theorem dL_comes_499 : decode cL_comes 499 = .ok (.iand, 1) := by decide +kernel
theorem dL_comes_500 : decode cL_comes 500 = .ok (.iconst 1, 1) := by decide +kernel
theorem dL_comes_501 : decode cL_comes 501 = .ok (.if_icmp .ne 17, 3) := by decide +kernel
theorem dL_comes_504 : decode cL_comes 504 = .ok (.aload_n 0, 1) := by decide +kernel
theorem dL_comes_505 : decode cL_comes 505 = .ok (.iload_n 1, 1) := by decide +kernel
theorem dL_comes_506 : decode cL_comes 506 = .ok (.iload 17, 2) := by decide +kernel
theorem dL_comes_508 : decode cL_comes 508 = .ok (.iconst 0, 1) := by decide +kernel
theorem dL_comes_509 : decode cL_comes 509 = .ok (.invokevirtual 15, 3) := by decide +kernel
theorem dL_comes_512 : decode cL_comes 512 = .ok (.iconst 1, 1) := by decide +kernel
theorem dL_comes_513 : decode cL_comes 513 = .ok (.if_icmp .eq 5, 3) := by decide +kernel
theorem dL_comes_516 : decode cL_comes 516 = .ok (.iconst 0, 1) := by decide +kernel
theorem dL_comes_517 : decode cL_comes 517 = .ok (.ireturn, 1) := by decide +kernel
theorem dL_comes_518 : decode cL_comes 518 = .ok (.iinc 17 1, 3) := by decide +kernel
theorem dL_comes_521 : decode cL_comes 521 = .ok (.goto (-102), 3) := by decide +kernel
theorem dL_comes_524 : decode cL_comes 524 = .ok (.aload_n 0, 1) := by decide +kernel
theorem dL_comes_525 : decode cL_comes 525 = .ok (.iload_n 1, 1) := by decide +kernel
theorem dL_comes_526 : decode cL_comes 526 = .ok (.bipush 11, 2) := by decide +kernel
theorem dL_comes_528 : decode cL_comes 528 = .ok (.invokevirtual 19, 3) := by decide +kernel
theorem dL_comes_531 : decode cL_comes 531 = .ok (.iload 12, 2) := by decide +kernel
theorem dL_comes_533 : decode cL_comes 533 = .ok (.iload 8, 2) := by decide +kernel
theorem dL_comes_535 : decode cL_comes 535 = .ok (.invokestatic 26, 3) := by decide +kernel
theorem dL_comes_538 : decode cL_comes 538 = .ok (.iadd, 1) := by decide +kernel
theorem dL_comes_539 : decode cL_comes 539 = .ok (.if_icmp .lt 7, 3) := by decide +kernel
theorem dL_comes_542 : decode cL_comes 542 = .ok (.iconst 1, 1) := by decide +kernel
theorem dL_comes_543 : decode cL_comes 543 = .ok (.goto 4, 3) := by decide +kernel
theorem dL_comes_546 : decode cL_comes 546 = .ok (.iconst 0, 1) := by decide +kernel
theorem dL_comes_547 : decode cL_comes 547 = .ok (.ireturn, 1) := by decide +kernel
