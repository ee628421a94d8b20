theorem dL_passes_0 : decode cL_passes 0 = .ok (.bipush 64, 2) := by decide +kernel
theorem dL_passes_2 : decode cL_passes 2 = .ok (.newarray .int, 2) := by decide +kernel
theorem dL_passes_4 : decode cL_passes 4 = .ok (.astore_n 1, 1) := by decide +kernel
theorem dL_passes_5 : decode cL_passes 5 = .ok (.bipush 64, 2) := by decide +kernel
theorem dL_passes_7 : decode cL_passes 7 = .ok (.newarray .int, 2) := by decide +kernel
theorem dL_passes_9 : decode cL_passes 9 = .ok (.astore_n 2, 1) := by decide +kernel
theorem dL_passes_10 : decode cL_passes 10 = .ok (.aload_n 0, 1) := by decide +kernel
theorem dL_passes_11 : decode cL_passes 11 = .ok (.iconst 0, 1) := by decide +kernel
theorem dL_passes_12 : decode cL_passes 12 = .ok (.invokevirtual 9, 3) := by decide +kernel
theorem dL_passes_15 : decode cL_passes 15 = .ok (.istore_n 3, 1) := by decide +kernel
theorem dL_passes_16 : decode cL_passes 16 = .ok (.aload_n 0, 1) := by decide +kernel
theorem dL_passes_17 : decode cL_passes 17 = .ok (.iconst 1, 1) := by decide +kernel
theorem dL_passes_18 : decode cL_passes 18 = .ok (.invokevirtual 9, 3) := by decide +kernel
theorem dL_passes_21 : decode cL_passes 21 = .ok (.iconst 4, 1) := by decide +kernel
theorem dL_passes_22 : decode cL_passes 22 = .ok (.if_icmp .ge 11, 3) := by decide +kernel
theorem dL_passes_25 : decode cL_passes 25 = .ok (.aload_n 0, 1) := by decide +kernel
theorem dL_passes_26 : decode cL_passes 26 = .ok (.iconst 1, 1) := by decide +kernel
theorem dL_passes_27 : decode cL_passes 27 = .ok (.invokevirtual 9, 3) := by decide +kernel
theorem dL_passes_30 : decode cL_passes 30 = .ok (.goto 4, 3) := by decide +kernel
theorem dL_passes_33 : decode cL_passes 33 = .ok (.iconst 4, 1) := by decide +kernel
theorem dL_passes_34 : decode cL_passes 34 = .ok (.istore 4, 2) := by decide +kernel
theorem dL_passes_36 : decode cL_passes 36 = .ok (.iconst 0, 1) := by decide +kernel
theorem dL_passes_37 : decode cL_passes 37 = .ok (.istore 5, 2) := by decide +kernel
theorem dL_passes_39 : decode cL_passes 39 = .ok (.iload 5, 2) := by decide +kernel
theorem dL_passes_41 : decode cL_passes 41 = .ok (.bipush 16, 2) := by decide +kernel
theorem dL_passes_43 : decode cL_passes 43 = .ok (.iload 4, 2) := by decide +kernel
theorem dL_passes_45 : decode cL_passes 45 = .ok (.imul, 1) := by decide +kernel
theorem dL_passes_46 : decode cL_passes 46 = .ok (.if_icmp .ge 47, 3) := by decide +kernel
theorem dL_passes_49 : decode cL_passes 49 = .ok (.aload_n 1, 1) := by decide +kernel
theorem dL_passes_50 : decode cL_passes 50 = .ok (.iload 5, 2) := by decide +kernel
theorem dL_passes_52 : decode cL_passes 52 = .ok (.aload_n 0, 1) := by decide +kernel
theorem dL_passes_53 : decode cL_passes 53 = .ok (.iload 5, 2) := by decide +kernel
theorem dL_passes_55 : decode cL_passes 55 = .ok (.bipush 16, 2) := by decide +kernel
theorem dL_passes_57 : decode cL_passes 57 = .ok (.idiv, 1) := by decide +kernel
theorem dL_passes_58 : decode cL_passes 58 = .ok (.iload 5, 2) := by decide +kernel
theorem dL_passes_60 : decode cL_passes 60 = .ok (.bipush 16, 2) := by decide +kernel
theorem dL_passes_62 : decode cL_passes 62 = .ok (.irem, 1) := by decide +kernel
theorem dL_passes_63 : decode cL_passes 63 = .ok (.iconst 0, 1) := by decide +kernel
theorem dL_passes_64 : decode cL_passes 64 = .ok (.invokevirtual 15, 3) := by decide +kernel
theorem dL_passes_67 : decode cL_passes 67 = .ok (.iastore, 1) := by decide +kernel
theorem dL_passes_68 : decode cL_passes 68 = .ok (.aload_n 2, 1) := by decide +kernel
theorem dL_passes_69 : decode cL_passes 69 = .ok (.iload 5, 2) := by decide +kernel
theorem dL_passes_71 : decode cL_passes 71 = .ok (.aload_n 0, 1) := by decide +kernel
theorem dL_passes_72 : decode cL_passes 72 = .ok (.iload 5, 2) := by decide +kernel
theorem dL_passes_74 : decode cL_passes 74 = .ok (.bipush 16, 2) := by decide +kernel
theorem dL_passes_76 : decode cL_passes 76 = .ok (.idiv, 1) := by decide +kernel
theorem dL_passes_77 : decode cL_passes 77 = .ok (.iload 5, 2) := by decide +kernel
theorem dL_passes_79 : decode cL_passes 79 = .ok (.bipush 16, 2) := by decide +kernel
theorem dL_passes_81 : decode cL_passes 81 = .ok (.irem, 1) := by decide +kernel
theorem dL_passes_82 : decode cL_passes 82 = .ok (.iconst 1, 1) := by decide +kernel
theorem dL_passes_83 : decode cL_passes 83 = .ok (.invokevirtual 15, 3) := by decide +kernel
theorem dL_passes_86 : decode cL_passes 86 = .ok (.iastore, 1) := by decide +kernel
theorem dL_passes_87 : decode cL_passes 87 = .ok (.iinc 5 1, 3) := by decide +kernel
theorem dL_passes_90 : decode cL_passes 90 = .ok (.goto (-51), 3) := by decide +kernel
theorem dL_passes_93 : decode cL_passes 93 = .ok (.aload_n 0, 1) := by decide +kernel
theorem dL_passes_94 : decode cL_passes 94 = .ok (.iconst 2, 1) := by decide +kernel
theorem dL_passes_95 : decode cL_passes 95 = .ok (.invokevirtual 9, 3) := by decide +kernel
theorem dL_passes_98 : decode cL_passes 98 = .ok (.istore 5, 2) := by decide +kernel
theorem dL_passes_100 : decode cL_passes 100 = .ok (.aload_n 0, 1) := by decide +kernel
theorem dL_passes_101 : decode cL_passes 101 = .ok (.iconst 1, 1) := by decide +kernel
theorem dL_passes_102 : decode cL_passes 102 = .ok (.invokevirtual 37, 3) := by decide +kernel
theorem dL_passes_105 : decode cL_passes 105 = .ok (.istore 6, 2) := by decide +kernel
theorem dL_passes_107 : decode cL_passes 107 = .ok (.iload 6, 2) := by decide +kernel
theorem dL_passes_109 : decode cL_passes 109 = .ok (.ifCond .lt 27, 3) := by decide +kernel
theorem dL_passes_112 : decode cL_passes 112 = .ok (.aload_n 0, 1) := by decide +kernel
theorem dL_passes_113 : decode cL_passes 113 = .ok (.iconst 2, 1) := by decide +kernel
theorem dL_passes_114 : decode cL_passes 114 = .ok (.invokevirtual 9, 3) := by decide +kernel
theorem dL_passes_117 : decode cL_passes 117 = .ok (.iload 5, 2) := by decide +kernel
theorem dL_passes_119 : decode cL_passes 119 = .ok (.iload 6, 2) := by decide +kernel
theorem dL_passes_121 : decode cL_passes 121 = .ok (.iadd, 1) := by decide +kernel
theorem dL_passes_122 : decode cL_passes 122 = .ok (.if_icmp .ne 14, 3) := by decide +kernel
theorem dL_passes_125 : decode cL_passes 125 = .ok (.aload_n 0, 1) := by decide +kernel
theorem dL_passes_126 : decode cL_passes 126 = .ok (.iconst 0, 1) := by decide +kernel
theorem dL_passes_127 : decode cL_passes 127 = .ok (.invokevirtual 9, 3) := by decide +kernel
theorem dL_passes_130 : decode cL_passes 130 = .ok (.iload_n 3, 1) := by decide +kernel
theorem dL_passes_131 : decode cL_passes 131 = .ok (.iconst 1, 1) := by decide +kernel
theorem dL_passes_132 : decode cL_passes 132 = .ok (.iadd, 1) := by decide +kernel
theorem dL_passes_133 : decode cL_passes 133 = .ok (.if_icmp .eq 5, 3) := by decide +kernel
theorem dL_passes_136 : decode cL_passes 136 = .ok (.iconst 0, 1) := by decide +kernel
theorem dL_passes_137 : decode cL_passes 137 = .ok (.ireturn, 1) := by decide +kernel
theorem dL_passes_138 : decode cL_passes 138 = .ok (.iconst 0, 1) := by decide +kernel
theorem dL_passes_139 : decode cL_passes 139 = .ok (.istore 7, 2) := by decide +kernel
theorem dL_passes_141 : decode cL_passes 141 = .ok (.iload 7, 2) := by decide +kernel
theorem dL_passes_143 : decode cL_passes 143 = .ok (.bipush 16, 2) := by decide +kernel
theorem dL_passes_145 : decode cL_passes 145 = .ok (.iload 4, 2) := by decide +kernel
theorem dL_passes_147 : decode cL_passes 147 = .ok (.imul, 1) := by decide +kernel
theorem dL_passes_148 : decode cL_passes 148 = .ok (.if_icmp .ge 189, 3) := by decide +kernel
theorem dL_passes_151 : decode cL_passes 151 = .ok (.iload 6, 2) := by decide +kernel
theorem dL_passes_153 : decode cL_passes 153 = .ok (.ifCond .ne 184, 3) := by decide +kernel
theorem dL_passes_156 : decode cL_passes 156 = .ok (.iload 7, 2) := by decide +kernel
theorem dL_passes_158 : decode cL_passes 158 = .ok (.bipush 16, 2) := by decide +kernel
theorem dL_passes_160 : decode cL_passes 160 = .ok (.idiv, 1) := by decide +kernel
theorem dL_passes_161 : decode cL_passes 161 = .ok (.istore 8, 2) := by decide +kernel
theorem dL_passes_163 : decode cL_passes 163 = .ok (.iload 7, 2) := by decide +kernel
theorem dL_passes_165 : decode cL_passes 165 = .ok (.bipush 16, 2) := by decide +kernel
theorem dL_passes_167 : decode cL_passes 167 = .ok (.irem, 1) := by decide +kernel
theorem dL_passes_168 : decode cL_passes 168 = .ok (.istore 9, 2) := by decide +kernel
theorem dL_passes_170 : decode cL_passes 170 = .ok (.aload_n 1, 1) := by decide +kernel
theorem dL_passes_171 : decode cL_passes 171 = .ok (.iload 7, 2) := by decide +kernel
theorem dL_passes_173 : decode cL_passes 173 = .ok (.iaload, 1) := by decide +kernel
theorem dL_passes_174 : decode cL_passes 174 = .ok (.iconst 3, 1) := by decide +kernel
theorem dL_passes_175 : decode cL_passes 175 = .ok (.if_icmp .ne 15, 3) := by decide +kernel
theorem dL_passes_178 : decode cL_passes 178 = .ok (.aload_n 2, 1) := by decide +kernel
theorem dL_passes_179 : decode cL_passes 179 = .ok (.iload 7, 2) := by decide +kernel
theorem dL_passes_181 : decode cL_passes 181 = .ok (.iaload, 1) := by decide +kernel
theorem dL_passes_182 : decode cL_passes 182 = .ok (.iconst 1, 1) := by decide +kernel
theorem dL_passes_183 : decode cL_passes 183 = .ok (.if_icmp .ne 7, 3) := by decide +kernel
theorem dL_passes_186 : decode cL_passes 186 = .ok (.iconst 1, 1) := by decide +kernel
theorem dL_passes_187 : decode cL_passes 187 = .ok (.goto 4, 3) := by decide +kernel
theorem dL_passes_190 : decode cL_passes 190 = .ok (.iconst 0, 1) := by decide +kernel
theorem dL_passes_191 : decode cL_passes 191 = .ok (.istore 10, 2) := by decide +kernel
theorem dL_passes_193 : decode cL_passes 193 = .ok (.iload 10, 2) := by decide +kernel
theorem dL_passes_195 : decode cL_passes 195 = .ok (.ifCond .eq 23, 3) := by decide +kernel
theorem dL_passes_198 : decode cL_passes 198 = .ok (.iload 9, 2) := by decide +kernel
theorem dL_passes_200 : decode cL_passes 200 = .ok (.aload_n 0, 1) := by decide +kernel
theorem dL_passes_201 : decode cL_passes 201 = .ok (.iload 8, 2) := by decide +kernel
theorem dL_passes_203 : decode cL_passes 203 = .ok (.iconst 0, 1) := by decide +kernel
theorem dL_passes_204 : decode cL_passes 204 = .ok (.invokevirtual 19, 3) := by decide +kernel
theorem dL_passes_207 : decode cL_passes 207 = .ok (.if_icmp .ge 7, 3) := by decide +kernel
theorem dL_passes_210 : decode cL_passes 210 = .ok (.iconst 0, 1) := by decide +kernel
theorem dL_passes_211 : decode cL_passes 211 = .ok (.goto 11, 3) := by decide +kernel
theorem dL_passes_214 : decode cL_passes 214 = .ok (.iconst (-1), 1) := by decide +kernel
theorem dL_passes_215 : decode cL_passes 215 = .ok (.goto 7, 3) := by decide +kernel
theorem dL_passes_218 : decode cL_passes 218 = .ok (.aload_n 1, 1) := by decide +kernel
theorem dL_passes_219 : decode cL_passes 219 = .ok (.iload 7, 2) := by decide +kernel
theorem dL_passes_221 : decode cL_passes 221 = .ok (.iaload, 1) := by decide +kernel
theorem dL_passes_222 : decode cL_passes 222 = .ok (.istore 11, 2) := by decide +kernel
theorem dL_passes_224 : decode cL_passes 224 = .ok (.aload_n 1, 1) := by decide +kernel
theorem dL_passes_225 : decode cL_passes 225 = .ok (.iload 7, 2) := by decide +kernel
theorem dL_passes_227 : decode cL_passes 227 = .ok (.iaload, 1) := by decide +kernel
theorem dL_passes_228 : decode cL_passes 228 = .ok (.iconst 3, 1) := by decide +kernel
theorem dL_passes_229 : decode cL_passes 229 = .ok (.if_icmp .ne 17, 3) := by decide +kernel
theorem dL_passes_232 : decode cL_passes 232 = .ok (.iload 10, 2) := by decide +kernel
theorem dL_passes_234 : decode cL_passes 234 = .ok (.ifCond .ne 12, 3) := by decide +kernel
theorem dL_passes_237 : decode cL_passes 237 = .ok (.aload_n 2, 1) := by decide +kernel
theorem dL_passes_238 : decode cL_passes 238 = .ok (.iload 7, 2) := by decide +kernel
theorem dL_passes_240 : decode cL_passes 240 = .ok (.iaload, 1) := by decide +kernel
theorem dL_passes_241 : decode cL_passes 241 = .ok (.iconst 1, 1) := by decide +kernel
theorem dL_passes_242 : decode cL_passes 242 = .ok (.isub, 1) := by decide +kernel
theorem dL_passes_243 : decode cL_passes 243 = .ok (.goto 21, 3) := by decide +kernel
theorem dL_passes_246 : decode cL_passes 246 = .ok (.aload_n 1, 1) := by decide +kernel
theorem dL_passes_247 : decode cL_passes 247 = .ok (.iload 7, 2) := by decide +kernel
theorem dL_passes_249 : decode cL_passes 249 = .ok (.iaload, 1) := by decide +kernel
theorem dL_passes_250 : decode cL_passes 250 = .ok (.iconst 4, 1) := by decide +kernel
theorem dL_passes_251 : decode cL_passes 251 = .ok (.if_icmp .ne 12, 3) := by decide +kernel
theorem dL_passes_254 : decode cL_passes 254 = .ok (.aload_n 2, 1) := by decide +kernel
theorem dL_passes_255 : decode cL_passes 255 = .ok (.iload 7, 2) := by decide +kernel
theorem dL_passes_257 : decode cL_passes 257 = .ok (.iaload, 1) := by decide +kernel
theorem dL_passes_258 : decode cL_passes 258 = .ok (.iconst 1, 1) := by decide +kernel
theorem dL_passes_259 : decode cL_passes 259 = .ok (.iadd, 1) := by decide +kernel
theorem dL_passes_260 : decode cL_passes 260 = .ok (.goto 4, 3) := by decide +kernel
theorem dL_passes_263 : decode cL_passes 263 = .ok (.iconst 0, 1) := by decide +kernel
theorem dL_passes_264 : decode cL_passes 264 = .ok (.istore 12, 2) := by decide +kernel
theorem dL_passes_266 : decode cL_passes 266 = .ok (.aload_n 0, 1) := by decide +kernel
theorem dL_passes_267 : decode cL_passes 267 = .ok (.iload 8, 2) := by decide +kernel
theorem dL_passes_269 : decode cL_passes 269 = .ok (.iload 9, 2) := by decide +kernel
theorem dL_passes_271 : decode cL_passes 271 = .ok (.iconst 0, 1) := by decide +kernel
theorem dL_passes_272 : decode cL_passes 272 = .ok (.invokevirtual 15, 3) := by decide +kernel
theorem dL_passes_275 : decode cL_passes 275 = .ok (.iload 11, 2) := by decide +kernel
theorem dL_passes_277 : decode cL_passes 277 = .ok (.if_icmp .ne 52, 3) := by decide +kernel
theorem dL_passes_280 : decode cL_passes 280 = .ok (.iload 11, 2) := by decide +kernel
theorem dL_passes_282 : decode cL_passes 282 = .ok (.ifCond .lt 17, 3) := by decide +kernel
theorem dL_passes_285 : decode cL_passes 285 = .ok (.aload_n 0, 1) := by decide +kernel
theorem dL_passes_286 : decode cL_passes 286 = .ok (.iload 8, 2) := by decide +kernel
theorem dL_passes_288 : decode cL_passes 288 = .ok (.iload 9, 2) := by decide +kernel
theorem dL_passes_290 : decode cL_passes 290 = .ok (.iconst 1, 1) := by decide +kernel
theorem dL_passes_291 : decode cL_passes 291 = .ok (.invokevirtual 15, 3) := by decide +kernel
theorem dL_passes_294 : decode cL_passes 294 = .ok (.iload 12, 2) := by decide +kernel
theorem dL_passes_296 : decode cL_passes 296 = .ok (.if_icmp .ne 33, 3) := by decide +kernel
theorem dL_passes_299 : decode cL_passes 299 = .ok (.iload 11, 2) := by decide +kernel
theorem dL_passes_301 : decode cL_passes 301 = .ok (.iconst 4, 1) := by decide +kernel
theorem dL_passes_302 : decode cL_passes 302 = .ok (.if_icmp .ne 29, 3) := by decide +kernel
theorem dL_passes_305 : decode cL_passes 305 = .ok (.iload 12, 2) := by decide +kernel
theorem dL_passes_307 : decode cL_passes 307 = .ok (.aload_n 0, 1) := by decide +kernel
theorem dL_passes_308 : decode cL_passes 308 = .ok (.bipush 6, 2) := by decide +kernel
theorem dL_passes_310 : decode cL_passes 310 = .ok (.invokevirtual 9, 3) := by decide +kernel
theorem dL_passes_313 : decode cL_passes 313 = .ok (.if_icmp .le 18, 3) := by decide +kernel
theorem dL_passes_316 : decode cL_passes 316 = .ok (.aload_n 0, 1) := by decide +kernel
theorem dL_passes_317 : decode cL_passes 317 = .ok (.iload 8, 2) := by decide +kernel
theorem dL_passes_319 : decode cL_passes 319 = .ok (.iload 9, 2) := by decide +kernel
theorem dL_passes_321 : decode cL_passes 321 = .ok (.iconst 3, 1) := by decide +kernel
theorem dL_passes_322 : decode cL_passes 322 = .ok (.invokevirtual 15, 3) := by decide +kernel
theorem dL_passes_325 : decode cL_passes 325 = .ok (.iconst 1, 1) := by decide +kernel
theorem dL_passes_326 : decode cL_passes 326 = .ok (.if_icmp .eq 5, 3) := by decide +kernel
theorem dL_passes_329 : decode cL_passes 329 = .ok (.iconst 0, 1) := by decide +kernel
theorem dL_passes_330 : decode cL_passes 330 = .ok (.ireturn, 1) := by decide +kernel
theorem dL_passes_331 : decode cL_passes 331 = .ok (.iinc 7 1, 3) := by decide +kernel
theorem dL_passes_334 : decode cL_passes 334 = .ok (.goto (-193), 3) := by decide +kernel
theorem dL_passes_337 : decode cL_passes 337 = .ok (.iconst 1, 1) := by decide +kernel
theorem dL_passes_338 : decode cL_passes 338 = .ok (.ireturn, 1) := by decide +kernel
theorem dL_act_0 : decode cL_act 0 = .ok (.aload_n 0, 1) := by decide +kernel
theorem dL_act_1 : decode cL_act 1 = .ok (.iconst 1, 1) := by decide +kernel
theorem dL_act_2 : decode cL_act 2 = .ok (.invokevirtual 9, 3) := by decide +kernel
theorem dL_act_5 : decode cL_act 5 = .ok (.istore_n 2, 1) := by decide +kernel
theorem dL_act_6 : decode cL_act 6 = .ok (.iload_n 1, 1) := by decide +kernel
theorem dL_act_7 : decode cL_act 7 = .ok (.iconst 4, 1) := by decide +kernel
theorem dL_act_8 : decode cL_act 8 = .ok (.ishr, 1) := by decide +kernel
theorem dL_act_9 : decode cL_act 9 = .ok (.iload_n 2, 1) := by decide +kernel
theorem dL_act_10 : decode cL_act 10 = .ok (.invokestatic 40, 3) := by decide +kernel
theorem dL_act_13 : decode cL_act 13 = .ok (.istore_n 3, 1) := by decide +kernel
theorem dL_act_14 : decode cL_act 14 = .ok (.iload_n 1, 1) := by decide +kernel
theorem dL_act_15 : decode cL_act 15 = .ok (.bipush 7, 2) := by decide +kernel
theorem dL_act_17 : decode cL_act 17 = .ok (.ishr, 1) := by decide +kernel
theorem dL_act_18 : decode cL_act 18 = .ok (.iload_n 1, 1) := by decide +kernel
theorem dL_act_19 : decode cL_act 19 = .ok (.bipush 20, 2) := by decide +kernel
theorem dL_act_21 : decode cL_act 21 = .ok (.ishr, 1) := by decide +kernel
theorem dL_act_22 : decode cL_act 22 = .ok (.iconst 3, 1) := by decide +kernel
theorem dL_act_23 : decode cL_act 23 = .ok (.invokestatic 40, 3) := by decide +kernel
theorem dL_act_26 : decode cL_act 26 = .ok (.ifCond .ne 8, 3) := by decide +kernel
theorem dL_act_29 : decode cL_act 29 = .ok (.bipush 16, 2) := by decide +kernel
theorem dL_act_31 : decode cL_act 31 = .ok (.goto 9, 3) := by decide +kernel
theorem dL_act_34 : decode cL_act 34 = .ok (.aload_n 0, 1) := by decide +kernel
theorem dL_act_35 : decode cL_act 35 = .ok (.iload_n 3, 1) := by decide +kernel
theorem dL_act_36 : decode cL_act 36 = .ok (.iconst 0, 1) := by decide +kernel
theorem dL_act_37 : decode cL_act 37 = .ok (.invokevirtual 19, 3) := by decide +kernel
theorem dL_act_40 : decode cL_act 40 = .ok (.invokestatic 40, 3) := by decide +kernel
theorem dL_act_43 : decode cL_act 43 = .ok (.istore 4, 2) := by decide +kernel
theorem dL_act_45 : decode cL_act 45 = .ok (.iload_n 1, 1) := by decide +kernel
theorem dL_act_46 : decode cL_act 46 = .ok (.bipush 12, 2) := by decide +kernel
theorem dL_act_48 : decode cL_act 48 = .ok (.invokestatic 40, 3) := by decide +kernel
theorem dL_act_51 : decode cL_act 51 = .ok (.istore 5, 2) := by decide +kernel
theorem dL_act_53 : decode cL_act 53 = .ok (.iload 5, 2) := by decide +kernel
theorem dL_act_55 : decode cL_act 55 = .ok (.bipush 6, 2) := by decide +kernel
theorem dL_act_57 : decode cL_act 57 = .ok (.if_icmp .ge 39, 3) := by decide +kernel
theorem dL_act_60 : decode cL_act 60 = .ok (.aload_n 0, 1) := by decide +kernel
theorem dL_act_61 : decode cL_act 61 = .ok (.iload_n 3, 1) := by decide +kernel
theorem dL_act_62 : decode cL_act 62 = .ok (.iload 4, 2) := by decide +kernel
theorem dL_act_64 : decode cL_act 64 = .ok (.iload_n 1, 1) := by decide +kernel
theorem dL_act_65 : decode cL_act 65 = .ok (.bipush 11, 2) := by decide +kernel
theorem dL_act_67 : decode cL_act 67 = .ok (.ishr, 1) := by decide +kernel
theorem dL_act_68 : decode cL_act 68 = .ok (.iconst 3, 1) := by decide +kernel
theorem dL_act_69 : decode cL_act 69 = .ok (.invokestatic 40, 3) := by decide +kernel
theorem dL_act_72 : decode cL_act 72 = .ok (.ifCond .ne 14, 3) := by decide +kernel
theorem dL_act_75 : decode cL_act 75 = .ok (.iconst 1, 1) := by decide +kernel
theorem dL_act_76 : decode cL_act 76 = .ok (.aload_n 0, 1) := by decide +kernel
theorem dL_act_77 : decode cL_act 77 = .ok (.iload_n 3, 1) := by decide +kernel
theorem dL_act_78 : decode cL_act 78 = .ok (.iconst 1, 1) := by decide +kernel
theorem dL_act_79 : decode cL_act 79 = .ok (.invokevirtual 19, 3) := by decide +kernel
theorem dL_act_82 : decode cL_act 82 = .ok (.isub, 1) := by decide +kernel
theorem dL_act_83 : decode cL_act 83 = .ok (.goto 9, 3) := by decide +kernel
theorem dL_act_86 : decode cL_act 86 = .ok (.aload_n 0, 1) := by decide +kernel
theorem dL_act_87 : decode cL_act 87 = .ok (.iload_n 3, 1) := by decide +kernel
theorem dL_act_88 : decode cL_act 88 = .ok (.iconst 1, 1) := by decide +kernel
theorem dL_act_89 : decode cL_act 89 = .ok (.invokevirtual 19, 3) := by decide +kernel
theorem dL_act_92 : decode cL_act 92 = .ok (.invokestatic 43, 3) := by decide +kernel
theorem dL_act_95 : decode cL_act 95 = .ok (.ireturn, 1) := by decide +kernel
theorem dL_act_96 : decode cL_act 96 = .ok (.iload 5, 2) := by decide +kernel
theorem dL_act_98 : decode cL_act 98 = .ok (.bipush 8, 2) := by decide +kernel
theorem dL_act_100 : decode cL_act 100 = .ok (.if_icmp .ge 8, 3) := by decide +kernel
theorem dL_act_103 : decode cL_act 103 = .ok (.aload_n 0, 1) := by decide +kernel
theorem dL_act_104 : decode cL_act 104 = .ok (.invokestatic 47, 3) := by decide +kernel
theorem dL_act_107 : decode cL_act 107 = .ok (.ireturn, 1) := by decide +kernel
theorem dL_act_108 : decode cL_act 108 = .ok (.iload 5, 2) := by decide +kernel
theorem dL_act_110 : decode cL_act 110 = .ok (.bipush 8, 2) := by decide +kernel
theorem dL_act_112 : decode cL_act 112 = .ok (.if_icmp .ne 120, 3) := by decide +kernel
theorem dL_act_115 : decode cL_act 115 = .ok (.aload_n 0, 1) := by decide +kernel
theorem dL_act_116 : decode cL_act 116 = .ok (.iload_n 3, 1) := by decide +kernel
theorem dL_act_117 : decode cL_act 117 = .ok (.iload 4, 2) := by decide +kernel
theorem dL_act_119 : decode cL_act 119 = .ok (.iconst 0, 1) := by decide +kernel
theorem dL_act_120 : decode cL_act 120 = .ok (.invokevirtual 15, 3) := by decide +kernel
theorem dL_act_123 : decode cL_act 123 = .ok (.istore 6, 2) := by decide +kernel
theorem dL_act_125 : decode cL_act 125 = .ok (.iload 4, 2) := by decide +kernel
theorem dL_act_127 : decode cL_act 127 = .ok (.aload_n 0, 1) := by decide +kernel
theorem dL_act_128 : decode cL_act 128 = .ok (.iload_n 3, 1) := by decide +kernel
theorem dL_act_129 : decode cL_act 129 = .ok (.iconst 0, 1) := by decide +kernel
theorem dL_act_130 : decode cL_act 130 = .ok (.invokevirtual 19, 3) := by decide +kernel
theorem dL_act_133 : decode cL_act 133 = .ok (.if_icmp .ge 7, 3) := by decide +kernel
theorem dL_act_136 : decode cL_act 136 = .ok (.iconst 1, 1) := by decide +kernel
theorem dL_act_137 : decode cL_act 137 = .ok (.goto 4, 3) := by decide +kernel
theorem dL_act_140 : decode cL_act 140 = .ok (.iconst 0, 1) := by decide +kernel
theorem dL_act_141 : decode cL_act 141 = .ok (.istore 7, 2) := by decide +kernel
theorem dL_act_143 : decode cL_act 143 = .ok (.aload_n 0, 1) := by decide +kernel
theorem dL_act_144 : decode cL_act 144 = .ok (.iload_n 3, 1) := by decide +kernel
theorem dL_act_145 : decode cL_act 145 = .ok (.iload 4, 2) := by decide +kernel
theorem dL_act_147 : decode cL_act 147 = .ok (.invokevirtual 51, 3) := by decide +kernel
theorem dL_act_150 : decode cL_act 150 = .ok (.istore 8, 2) := by decide +kernel
theorem dL_act_152 : decode cL_act 152 = .ok (.iload 7, 2) := by decide +kernel
theorem dL_act_154 : decode cL_act 154 = .ok (.ifCond .ne 17, 3) := by decide +kernel
theorem dL_act_157 : decode cL_act 157 = .ok (.iload 8, 2) := by decide +kernel
theorem dL_act_159 : decode cL_act 159 = .ok (.iconst (-1), 1) := by decide +kernel
theorem dL_act_160 : decode cL_act 160 = .ok (.if_icmp .ne 7, 3) := by decide +kernel
theorem dL_act_163 : decode cL_act 163 = .ok (.iconst 1, 1) := by decide +kernel
theorem dL_act_164 : decode cL_act 164 = .ok (.goto 67, 3) := by decide +kernel
theorem dL_act_167 : decode cL_act 167 = .ok (.iconst 0, 1) := by decide +kernel
theorem dL_act_168 : decode cL_act 168 = .ok (.goto 63, 3) := by decide +kernel
theorem dL_act_171 : decode cL_act 171 = .ok (.iload 6, 2) := by decide +kernel
theorem dL_act_173 : decode cL_act 173 = .ok (.iconst 2, 1) := by decide +kernel
theorem dL_act_174 : decode cL_act 174 = .ok (.if_icmp .le 18, 3) := by decide +kernel
theorem dL_act_177 : decode cL_act 177 = .ok (.iload 8, 2) := by decide +kernel
theorem dL_act_179 : decode cL_act 179 = .ok (.bipush (-5), 2) := by decide +kernel
theorem dL_act_181 : decode cL_act 181 = .ok (.if_icmp .ne 7, 3) := by decide +kernel
theorem dL_act_184 : decode cL_act 184 = .ok (.iconst 1, 1) := by decide +kernel
theorem dL_act_185 : decode cL_act 185 = .ok (.goto 46, 3) := by decide +kernel
theorem dL_act_188 : decode cL_act 188 = .ok (.iconst 0, 1) := by decide +kernel
theorem dL_act_189 : decode cL_act 189 = .ok (.goto 42, 3) := by decide +kernel
theorem dL_act_192 : decode cL_act 192 = .ok (.iload 8, 2) := by decide +kernel
theorem dL_act_194 : decode cL_act 194 = .ok (.aload_n 0, 1) := by decide +kernel
theorem dL_act_195 : decode cL_act 195 = .ok (.iload_n 3, 1) := by decide +kernel
theorem dL_act_196 : decode cL_act 196 = .ok (.iconst 3, 1) := by decide +kernel
theorem dL_act_197 : decode cL_act 197 = .ok (.invokevirtual 19, 3) := by decide +kernel
theorem dL_act_200 : decode cL_act 200 = .ok (.if_icmp .ne 30, 3) := by decide +kernel
theorem dL_act_203 : decode cL_act 203 = .ok (.aload_n 0, 1) := by decide +kernel
theorem dL_act_204 : decode cL_act 204 = .ok (.iload_n 3, 1) := by decide +kernel
theorem dL_act_205 : decode cL_act 205 = .ok (.iload 4, 2) := by decide +kernel
theorem dL_act_207 : decode cL_act 207 = .ok (.iconst 0, 1) := by decide +kernel
theorem dL_act_208 : decode cL_act 208 = .ok (.invokevirtual 15, 3) := by decide +kernel
theorem dL_act_211 : decode cL_act 211 = .ok (.iconst 4, 1) := by decide +kernel
theorem dL_act_212 : decode cL_act 212 = .ok (.if_icmp .ne 18, 3) := by decide +kernel
theorem dL_act_215 : decode cL_act 215 = .ok (.aload_n 0, 1) := by decide +kernel
theorem dL_act_216 : decode cL_act 216 = .ok (.iload_n 3, 1) := by decide +kernel
theorem dL_act_217 : decode cL_act 217 = .ok (.iload 4, 2) := by decide +kernel
theorem dL_act_219 : decode cL_act 219 = .ok (.iconst 1, 1) := by decide +kernel
theorem dL_act_220 : decode cL_act 220 = .ok (.invokevirtual 15, 3) := by decide +kernel
theorem dL_act_223 : decode cL_act 223 = .ok (.ifCond .ne 7, 3) := by decide +kernel
theorem dL_act_226 : decode cL_act 226 = .ok (.iconst 1, 1) := by decide +kernel
theorem dL_act_227 : decode cL_act 227 = .ok (.goto 4, 3) := by decide +kernel
theorem dL_act_230 : decode cL_act 230 = .ok (.iconst 0, 1) := by decide +kernel
theorem dL_act_231 : decode cL_act 231 = .ok (.ireturn, 1) := by decide +kernel
theorem dL_act_232 : decode cL_act 232 = .ok (.iload 5, 2) := by decide +kernel
theorem dL_act_234 : decode cL_act 234 = .ok (.bipush 9, 2) := by decide +kernel
theorem dL_act_236 : decode cL_act 236 = .ok (.if_icmp .ne 114, 3) := by decide +kernel
theorem dL_act_239 : decode cL_act 239 = .ok (.aload_n 0, 1) := by decide +kernel
theorem dL_act_240 : decode cL_act 240 = .ok (.iload_n 3, 1) := by decide +kernel
theorem dL_act_241 : decode cL_act 241 = .ok (.iload 4, 2) := by decide +kernel
theorem dL_act_243 : decode cL_act 243 = .ok (.iconst 0, 1) := by decide +kernel
theorem dL_act_244 : decode cL_act 244 = .ok (.invokevirtual 15, 3) := by decide +kernel
theorem dL_act_247 : decode cL_act 247 = .ok (.istore 6, 2) := by decide +kernel
theorem dL_act_249 : decode cL_act 249 = .ok (.aload_n 0, 1) := by decide +kernel
theorem dL_act_250 : decode cL_act 250 = .ok (.iload_n 3, 1) := by decide +kernel
theorem dL_act_251 : decode cL_act 251 = .ok (.iload 4, 2) := by decide +kernel
theorem dL_act_253 : decode cL_act 253 = .ok (.iconst 1, 1) := by decide +kernel
theorem dL_act_254 : decode cL_act 254 = .ok (.invokevirtual 15, 3) := by decide +kernel
theorem dL_act_257 : decode cL_act 257 = .ok (.istore 7, 2) := by decide +kernel
theorem dL_act_259 : decode cL_act 259 = .ok (.iload 4, 2) := by decide +kernel
theorem dL_act_261 : decode cL_act 261 = .ok (.aload_n 0, 1) := by decide +kernel
theorem dL_act_262 : decode cL_act 262 = .ok (.iload_n 3, 1) := by decide +kernel
theorem dL_act_263 : decode cL_act 263 = .ok (.iconst 0, 1) := by decide +kernel
theorem dL_act_264 : decode cL_act 264 = .ok (.invokevirtual 19, 3) := by decide +kernel
theorem dL_act_267 : decode cL_act 267 = .ok (.if_icmp .ge 7, 3) := by decide +kernel
theorem dL_act_270 : decode cL_act 270 = .ok (.iconst 1, 1) := by decide +kernel
theorem dL_act_271 : decode cL_act 271 = .ok (.goto 4, 3) := by decide +kernel
theorem dL_act_274 : decode cL_act 274 = .ok (.iconst 0, 1) := by decide +kernel
theorem dL_act_275 : decode cL_act 275 = .ok (.istore 8, 2) := by decide +kernel
theorem dL_act_277 : decode cL_act 277 = .ok (.aload_n 0, 1) := by decide +kernel
theorem dL_act_278 : decode cL_act 278 = .ok (.iload_n 3, 1) := by decide +kernel
theorem dL_act_279 : decode cL_act 279 = .ok (.iload 4, 2) := by decide +kernel
theorem dL_act_281 : decode cL_act 281 = .ok (.invokevirtual 54, 3) := by decide +kernel
theorem dL_act_284 : decode cL_act 284 = .ok (.istore 9, 2) := by decide +kernel
theorem dL_act_286 : decode cL_act 286 = .ok (.iload 8, 2) := by decide +kernel
theorem dL_act_288 : decode cL_act 288 = .ok (.ifCond .ne 17, 3) := by decide +kernel
theorem dL_act_291 : decode cL_act 291 = .ok (.iload 9, 2) := by decide +kernel
theorem dL_act_293 : decode cL_act 293 = .ok (.iconst (-1), 1) := by decide +kernel
theorem dL_act_294 : decode cL_act 294 = .ok (.if_icmp .ne 7, 3) := by decide +kernel
theorem dL_act_297 : decode cL_act 297 = .ok (.iconst 1, 1) := by decide +kernel
theorem dL_act_298 : decode cL_act 298 = .ok (.goto 51, 3) := by decide +kernel
theorem dL_act_301 : decode cL_act 301 = .ok (.iconst 0, 1) := by decide +kernel
theorem dL_act_302 : decode cL_act 302 = .ok (.goto 47, 3) := by decide +kernel
theorem dL_act_305 : decode cL_act 305 = .ok (.iload 6, 2) := by decide +kernel
theorem dL_act_307 : decode cL_act 307 = .ok (.iconst 4, 1) := by decide +kernel
theorem dL_act_308 : decode cL_act 308 = .ok (.if_icmp .eq 18, 3) := by decide +kernel
theorem dL_act_311 : decode cL_act 311 = .ok (.iload 9, 2) := by decide +kernel
theorem dL_act_313 : decode cL_act 313 = .ok (.bipush (-5), 2) := by decide +kernel
theorem dL_act_315 : decode cL_act 315 = .ok (.if_icmp .ne 7, 3) := by decide +kernel
theorem dL_act_318 : decode cL_act 318 = .ok (.iconst 1, 1) := by decide +kernel
theorem dL_act_319 : decode cL_act 319 = .ok (.goto 30, 3) := by decide +kernel
theorem dL_act_322 : decode cL_act 322 = .ok (.iconst 0, 1) := by decide +kernel
theorem dL_act_323 : decode cL_act 323 = .ok (.goto 26, 3) := by decide +kernel
theorem dL_act_326 : decode cL_act 326 = .ok (.iload 9, 2) := by decide +kernel
theorem dL_act_328 : decode cL_act 328 = .ok (.iload 7, 2) := by decide +kernel
theorem dL_act_330 : decode cL_act 330 = .ok (.if_icmp .ne 18, 3) := by decide +kernel
theorem dL_act_333 : decode cL_act 333 = .ok (.aload_n 0, 1) := by decide +kernel
theorem dL_act_334 : decode cL_act 334 = .ok (.iload_n 3, 1) := by decide +kernel
theorem dL_act_335 : decode cL_act 335 = .ok (.iload 4, 2) := by decide +kernel
theorem dL_act_337 : decode cL_act 337 = .ok (.iconst 0, 1) := by decide +kernel
theorem dL_act_338 : decode cL_act 338 = .ok (.invokevirtual 15, 3) := by decide +kernel
theorem dL_act_341 : decode cL_act 341 = .ok (.ifCond .ne 7, 3) := by decide +kernel
theorem dL_act_344 : decode cL_act 344 = .ok (.iconst 1, 1) := by decide +kernel
theorem dL_act_345 : decode cL_act 345 = .ok (.goto 4, 3) := by decide +kernel
theorem dL_act_348 : decode cL_act 348 = .ok (.iconst 0, 1) := by decide +kernel
theorem dL_act_349 : decode cL_act 349 = .ok (.ireturn, 1) := by decide +kernel
theorem dL_act_350 : decode cL_act 350 = .ok (.iload 5, 2) := by decide +kernel
theorem dL_act_352 : decode cL_act 352 = .ok (.bipush 10, 2) := by decide +kernel
theorem dL_act_354 : decode cL_act 354 = .ok (.if_icmp .ne 58, 3) := by decide +kernel
theorem dL_act_357 : decode cL_act 357 = .ok (.aload_n 0, 1) := by decide +kernel
theorem dL_act_358 : decode cL_act 358 = .ok (.iload_n 3, 1) := by decide +kernel
theorem dL_act_359 : decode cL_act 359 = .ok (.iconst 2, 1) := by decide +kernel
theorem dL_act_360 : decode cL_act 360 = .ok (.invokevirtual 19, 3) := by decide +kernel
theorem dL_act_363 : decode cL_act 363 = .ok (.istore 6, 2) := by decide +kernel
theorem dL_act_365 : decode cL_act 365 = .ok (.aload_n 0, 1) := by decide +kernel
theorem dL_act_366 : decode cL_act 366 = .ok (.iload_n 3, 1) := by decide +kernel
theorem dL_act_367 : decode cL_act 367 = .ok (.iconst 1, 1) := by decide +kernel
theorem dL_act_368 : decode cL_act 368 = .ok (.iload_n 1, 1) := by decide +kernel
theorem dL_act_369 : decode cL_act 369 = .ok (.bipush 12, 2) := by decide +kernel
theorem dL_act_371 : decode cL_act 371 = .ok (.ishr, 1) := by decide +kernel
theorem dL_act_372 : decode cL_act 372 = .ok (.bipush 6, 2) := by decide +kernel
theorem dL_act_374 : decode cL_act 374 = .ok (.invokestatic 40, 3) := by decide +kernel
theorem dL_act_377 : decode cL_act 377 = .ok (.iadd, 1) := by decide +kernel
theorem dL_act_378 : decode cL_act 378 = .ok (.invokevirtual 57, 3) := by decide +kernel
theorem dL_act_381 : decode cL_act 381 = .ok (.iload 6, 2) := by decide +kernel
theorem dL_act_383 : decode cL_act 383 = .ok (.if_icmp .ne 27, 3) := by decide +kernel
theorem dL_act_386 : decode cL_act 386 = .ok (.aload_n 0, 1) := by decide +kernel
theorem dL_act_387 : decode cL_act 387 = .ok (.iload_n 3, 1) := by decide +kernel
theorem dL_act_388 : decode cL_act 388 = .ok (.iconst 2, 1) := by decide +kernel
theorem dL_act_389 : decode cL_act 389 = .ok (.invokevirtual 19, 3) := by decide +kernel
theorem dL_act_392 : decode cL_act 392 = .ok (.iconst 1, 1) := by decide +kernel
theorem dL_act_393 : decode cL_act 393 = .ok (.iload_n 1, 1) := by decide +kernel
theorem dL_act_394 : decode cL_act 394 = .ok (.bipush 12, 2) := by decide +kernel
theorem dL_act_396 : decode cL_act 396 = .ok (.ishr, 1) := by decide +kernel
theorem dL_act_397 : decode cL_act 397 = .ok (.bipush 6, 2) := by decide +kernel
theorem dL_act_399 : decode cL_act 399 = .ok (.invokestatic 40, 3) := by decide +kernel
theorem dL_act_402 : decode cL_act 402 = .ok (.iadd, 1) := by decide +kernel
theorem dL_act_403 : decode cL_act 403 = .ok (.if_icmp .ne 7, 3) := by decide +kernel
theorem dL_act_406 : decode cL_act 406 = .ok (.iconst 1, 1) := by decide +kernel
theorem dL_act_407 : decode cL_act 407 = .ok (.goto 4, 3) := by decide +kernel
theorem dL_act_410 : decode cL_act 410 = .ok (.iconst 0, 1) := by decide +kernel
theorem dL_act_411 : decode cL_act 411 = .ok (.ireturn, 1) := by decide +kernel
theorem dL_act_412 : decode cL_act 412 = .ok (.aload_n 0, 1) := by decide +kernel
theorem dL_act_413 : decode cL_act 413 = .ok (.iconst 1, 1) := by decide +kernel
theorem dL_act_414 : decode cL_act 414 = .ok (.iload_n 1, 1) := by decide +kernel
theorem dL_act_415 : decode cL_act 415 = .ok (.bipush 12, 2) := by decide +kernel
theorem dL_act_417 : decode cL_act 417 = .ok (.ishr, 1) := by decide +kernel
theorem dL_act_418 : decode cL_act 418 = .ok (.iconst 5, 1) := by decide +kernel
theorem dL_act_419 : decode cL_act 419 = .ok (.invokestatic 40, 3) := by decide +kernel
theorem dL_act_422 : decode cL_act 422 = .ok (.iadd, 1) := by decide +kernel
theorem dL_act_423 : decode cL_act 423 = .ok (.invokevirtual 60, 3) := by decide +kernel
theorem dL_act_426 : decode cL_act 426 = .ok (.istore 6, 2) := by decide +kernel
theorem dL_act_428 : decode cL_act 428 = .ok (.iload_n 2, 1) := by decide +kernel
theorem dL_act_429 : decode cL_act 429 = .ok (.iconst 5, 1) := by decide +kernel
theorem dL_act_430 : decode cL_act 430 = .ok (.if_icmp .ne 18, 3) := by decide +kernel
theorem dL_act_433 : decode cL_act 433 = .ok (.iload 6, 2) := by decide +kernel
theorem dL_act_435 : decode cL_act 435 = .ok (.bipush (-4), 2) := by decide +kernel
theorem dL_act_437 : decode cL_act 437 = .ok (.if_icmp .ne 7, 3) := by decide +kernel
theorem dL_act_440 : decode cL_act 440 = .ok (.iconst 1, 1) := by decide +kernel
theorem dL_act_441 : decode cL_act 441 = .ok (.goto 37, 3) := by decide +kernel
theorem dL_act_444 : decode cL_act 444 = .ok (.iconst 0, 1) := by decide +kernel
theorem dL_act_445 : decode cL_act 445 = .ok (.goto 33, 3) := by decide +kernel
theorem dL_act_448 : decode cL_act 448 = .ok (.iload 6, 2) := by decide +kernel
theorem dL_act_450 : decode cL_act 450 = .ok (.iload_n 2, 1) := by decide +kernel
theorem dL_act_451 : decode cL_act 451 = .ok (.if_icmp .ne 26, 3) := by decide +kernel
theorem dL_act_454 : decode cL_act 454 = .ok (.aload_n 0, 1) := by decide +kernel
theorem dL_act_455 : decode cL_act 455 = .ok (.iload_n 2, 1) := by decide +kernel
theorem dL_act_456 : decode cL_act 456 = .ok (.iconst 3, 1) := by decide +kernel
theorem dL_act_457 : decode cL_act 457 = .ok (.invokevirtual 19, 3) := by decide +kernel
theorem dL_act_460 : decode cL_act 460 = .ok (.iconst 1, 1) := by decide +kernel
theorem dL_act_461 : decode cL_act 461 = .ok (.iload_n 1, 1) := by decide +kernel
theorem dL_act_462 : decode cL_act 462 = .ok (.bipush 12, 2) := by decide +kernel
theorem dL_act_464 : decode cL_act 464 = .ok (.ishr, 1) := by decide +kernel
theorem dL_act_465 : decode cL_act 465 = .ok (.iconst 5, 1) := by decide +kernel
theorem dL_act_466 : decode cL_act 466 = .ok (.invokestatic 40, 3) := by decide +kernel
theorem dL_act_469 : decode cL_act 469 = .ok (.iadd, 1) := by decide +kernel
theorem dL_act_470 : decode cL_act 470 = .ok (.if_icmp .ne 7, 3) := by decide +kernel
theorem dL_act_473 : decode cL_act 473 = .ok (.iconst 1, 1) := by decide +kernel
theorem dL_act_474 : decode cL_act 474 = .ok (.goto 4, 3) := by decide +kernel
theorem dL_act_477 : decode cL_act 477 = .ok (.iconst 0, 1) := by decide +kernel
theorem dL_act_478 : decode cL_act 478 = .ok (.ireturn, 1) := by decide +kernel
theorem dL_law_0 : decode cL_law 0 = .ok (.new 10, 3) := by decide +kernel
theorem dL_law_3 : decode cL_law 3 = .ok (.dup, 1) := by decide +kernel
theorem dL_law_4 : decode cL_law 4 = .ok (.invokespecial 63, 3) := by decide +kernel
theorem dL_law_7 : decode cL_law 7 = .ok (.astore_n 1, 1) := by decide +kernel
theorem dL_law_8 : decode cL_law 8 = .ok (.aload_n 1, 1) := by decide +kernel
theorem dL_law_9 : decode cL_law 9 = .ok (.iconst 0, 1) := by decide +kernel
theorem dL_law_10 : decode cL_law 10 = .ok (.aload_n 0, 1) := by decide +kernel
theorem dL_law_11 : decode cL_law 11 = .ok (.iconst 0, 1) := by decide +kernel
theorem dL_law_12 : decode cL_law 12 = .ok (.invokestatic 64, 3) := by decide +kernel
theorem dL_law_15 : decode cL_law 15 = .ok (.bipush 6, 2) := by decide +kernel
theorem dL_law_17 : decode cL_law 17 = .ok (.invokestatic 40, 3) := by decide +kernel
theorem dL_law_20 : decode cL_law 20 = .ok (.invokevirtual 68, 3) := by decide +kernel
theorem dL_law_23 : decode cL_law 23 = .ok (.pop, 1) := by decide +kernel
theorem dL_law_24 : decode cL_law 24 = .ok (.aload_n 1, 1) := by decide +kernel
theorem dL_law_25 : decode cL_law 25 = .ok (.iconst 1, 1) := by decide +kernel
theorem dL_law_26 : decode cL_law 26 = .ok (.iconst 1, 1) := by decide +kernel
theorem dL_law_27 : decode cL_law 27 = .ok (.aload_n 0, 1) := by decide +kernel
theorem dL_law_28 : decode cL_law 28 = .ok (.iconst 1, 1) := by decide +kernel
theorem dL_law_29 : decode cL_law 29 = .ok (.invokestatic 64, 3) := by decide +kernel
theorem dL_law_32 : decode cL_law 32 = .ok (.bipush 8, 2) := by decide +kernel
theorem dL_law_34 : decode cL_law 34 = .ok (.invokestatic 40, 3) := by decide +kernel
theorem dL_law_37 : decode cL_law 37 = .ok (.iadd, 1) := by decide +kernel
theorem dL_law_38 : decode cL_law 38 = .ok (.invokevirtual 68, 3) := by decide +kernel
theorem dL_law_41 : decode cL_law 41 = .ok (.pop, 1) := by decide +kernel
theorem dL_law_42 : decode cL_law 42 = .ok (.aload_n 1, 1) := by decide +kernel
theorem dL_law_43 : decode cL_law 43 = .ok (.iconst 1, 1) := by decide +kernel
theorem dL_law_44 : decode cL_law 44 = .ok (.aload_n 0, 1) := by decide +kernel
theorem dL_law_45 : decode cL_law 45 = .ok (.iconst 2, 1) := by decide +kernel
theorem dL_law_46 : decode cL_law 46 = .ok (.invokestatic 64, 3) := by decide +kernel
theorem dL_law_49 : decode cL_law 49 = .ok (.iconst 4, 1) := by decide +kernel
theorem dL_law_50 : decode cL_law 50 = .ok (.invokestatic 40, 3) := by decide +kernel
theorem dL_law_53 : decode cL_law 53 = .ok (.iadd, 1) := by decide +kernel
theorem dL_law_54 : decode cL_law 54 = .ok (.invokevirtual 60, 3) := by decide +kernel
theorem dL_law_57 : decode cL_law 57 = .ok (.ifCond .ne 22, 3) := by decide +kernel
theorem dL_law_60 : decode cL_law 60 = .ok (.aload_n 1, 1) := by decide +kernel
theorem dL_law_61 : decode cL_law 61 = .ok (.iconst 1, 1) := by decide +kernel
theorem dL_law_62 : decode cL_law 62 = .ok (.aload_n 0, 1) := by decide +kernel
theorem dL_law_63 : decode cL_law 63 = .ok (.iconst 3, 1) := by decide +kernel
theorem dL_law_64 : decode cL_law 64 = .ok (.invokestatic 64, 3) := by decide +kernel
theorem dL_law_67 : decode cL_law 67 = .ok (.iconst 3, 1) := by decide +kernel
theorem dL_law_68 : decode cL_law 68 = .ok (.invokestatic 40, 3) := by decide +kernel
theorem dL_law_71 : decode cL_law 71 = .ok (.iadd, 1) := by decide +kernel
theorem dL_law_72 : decode cL_law 72 = .ok (.invokevirtual 60, 3) := by decide +kernel
theorem dL_law_75 : decode cL_law 75 = .ok (.iconst 1, 1) := by decide +kernel
theorem dL_law_76 : decode cL_law 76 = .ok (.if_icmp .eq 5, 3) := by decide +kernel
theorem dL_law_79 : decode cL_law 79 = .ok (.iconst 0, 1) := by decide +kernel
theorem dL_law_80 : decode cL_law 80 = .ok (.ireturn, 1) := by decide +kernel
theorem dL_law_81 : decode cL_law 81 = .ok (.iconst 0, 1) := by decide +kernel
theorem dL_law_82 : decode cL_law 82 = .ok (.istore_n 2, 1) := by decide +kernel
theorem dL_law_83 : decode cL_law 83 = .ok (.iload_n 2, 1) := by decide +kernel
theorem dL_law_84 : decode cL_law 84 = .ok (.bipush 60, 2) := by decide +kernel
theorem dL_law_86 : decode cL_law 86 = .ok (.if_icmp .ge 32, 3) := by decide +kernel
theorem dL_law_89 : decode cL_law 89 = .ok (.aload_n 1, 1) := by decide +kernel
theorem dL_law_90 : decode cL_law 90 = .ok (.aload_n 0, 1) := by decide +kernel
theorem dL_law_91 : decode cL_law 91 = .ok (.iconst 4, 1) := by decide +kernel
theorem dL_law_92 : decode cL_law 92 = .ok (.iload_n 2, 1) := by decide +kernel
theorem dL_law_93 : decode cL_law 93 = .ok (.iadd, 1) := by decide +kernel
theorem dL_law_94 : decode cL_law 94 = .ok (.invokestatic 64, 3) := by decide +kernel
theorem dL_law_97 : decode cL_law 97 = .ok (.invokestatic 71, 3) := by decide +kernel
theorem dL_law_100 : decode cL_law 100 = .ok (.ifCond .eq 10, 3) := by decide +kernel
theorem dL_law_103 : decode cL_law 103 = .ok (.aload_n 1, 1) := by decide +kernel
theorem dL_law_104 : decode cL_law 104 = .ok (.invokestatic 75, 3) := by decide +kernel
theorem dL_law_107 : decode cL_law 107 = .ok (.ifCond .ne 5, 3) := by decide +kernel
theorem dL_law_110 : decode cL_law 110 = .ok (.iconst 0, 1) := by decide +kernel
theorem dL_law_111 : decode cL_law 111 = .ok (.ireturn, 1) := by decide +kernel
theorem dL_law_112 : decode cL_law 112 = .ok (.iinc 2 1, 3) := by decide +kernel
theorem dL_law_115 : decode cL_law 115 = .ok (.goto (-32), 3) := by decide +kernel
theorem dL_law_118 : decode cL_law 118 = .ok (.aload_n 1, 1) := by decide +kernel
theorem dL_law_119 : decode cL_law 119 = .ok (.bipush 17, 2) := by decide +kernel
theorem dL_law_121 : decode cL_law 121 = .ok (.invokevirtual 60, 3) := by decide +kernel
theorem dL_law_124 : decode cL_law 124 = .ok (.bipush (-2), 2) := by decide +kernel
theorem dL_law_126 : decode cL_law 126 = .ok (.if_icmp .ne 77, 3) := by decide +kernel
theorem dL_law_129 : decode cL_law 129 = .ok (.aload_n 1, 1) := by decide +kernel
theorem dL_law_130 : decode cL_law 130 = .ok (.bipush 9, 2) := by decide +kernel
theorem dL_law_132 : decode cL_law 132 = .ok (.iconst 0, 1) := by decide +kernel
theorem dL_law_133 : decode cL_law 133 = .ok (.iconst 0, 1) := by decide +kernel
theorem dL_law_134 : decode cL_law 134 = .ok (.invokevirtual 34, 3) := by decide +kernel
theorem dL_law_137 : decode cL_law 137 = .ok (.iconst (-1), 1) := by decide +kernel
theorem dL_law_138 : decode cL_law 138 = .ok (.if_icmp .ne 65, 3) := by decide +kernel
theorem dL_law_141 : decode cL_law 141 = .ok (.aload_n 1, 1) := by decide +kernel
theorem dL_law_142 : decode cL_law 142 = .ok (.iconst 0, 1) := by decide +kernel
theorem dL_law_143 : decode cL_law 143 = .ok (.iconst 0, 1) := by decide +kernel
theorem dL_law_144 : decode cL_law 144 = .ok (.iconst 2, 1) := by decide +kernel
theorem dL_law_145 : decode cL_law 145 = .ok (.invokevirtual 34, 3) := by decide +kernel
theorem dL_law_148 : decode cL_law 148 = .ok (.bipush (-2), 2) := by decide +kernel
theorem dL_law_150 : decode cL_law 150 = .ok (.if_icmp .ne 53, 3) := by decide +kernel
theorem dL_law_153 : decode cL_law 153 = .ok (.aload_n 1, 1) := by decide +kernel
theorem dL_law_154 : decode cL_law 154 = .ok (.bipush 100, 2) := by decide +kernel
theorem dL_law_156 : decode cL_law 156 = .ok (.invokevirtual 37, 3) := by decide +kernel
theorem dL_law_159 : decode cL_law 159 = .ok (.bipush (-2), 2) := by decide +kernel
theorem dL_law_161 : decode cL_law 161 = .ok (.if_icmp .ne 42, 3) := by decide +kernel
theorem dL_law_164 : decode cL_law 164 = .ok (.aload_n 1, 1) := by decide +kernel
theorem dL_law_165 : decode cL_law 165 = .ok (.iconst 0, 1) := by decide +kernel
theorem dL_law_166 : decode cL_law 166 = .ok (.bipush 12, 2) := by decide +kernel
theorem dL_law_168 : decode cL_law 168 = .ok (.invokevirtual 19, 3) := by decide +kernel
theorem dL_law_171 : decode cL_law 171 = .ok (.bipush (-2), 2) := by decide +kernel
theorem dL_law_173 : decode cL_law 173 = .ok (.if_icmp .ne 30, 3) := by decide +kernel
theorem dL_law_176 : decode cL_law 176 = .ok (.aload_n 1, 1) := by decide +kernel
theorem dL_law_177 : decode cL_law 177 = .ok (.iconst 0, 1) := by decide +kernel
theorem dL_law_178 : decode cL_law 178 = .ok (.bipush 16, 2) := by decide +kernel
theorem dL_law_180 : decode cL_law 180 = .ok (.iconst 0, 1) := by decide +kernel
theorem dL_law_181 : decode cL_law 181 = .ok (.invokevirtual 15, 3) := by decide +kernel
theorem dL_law_184 : decode cL_law 184 = .ok (.iconst (-1), 1) := by decide +kernel
theorem dL_law_185 : decode cL_law 185 = .ok (.if_icmp .ne 18, 3) := by decide +kernel
theorem dL_law_188 : decode cL_law 188 = .ok (.aload_n 1, 1) := by decide +kernel
theorem dL_law_189 : decode cL_law 189 = .ok (.bipush 10, 2) := by decide +kernel
theorem dL_law_191 : decode cL_law 191 = .ok (.invokevirtual 9, 3) := by decide +kernel
theorem dL_law_194 : decode cL_law 194 = .ok (.bipush (-2), 2) := by decide +kernel
theorem dL_law_196 : decode cL_law 196 = .ok (.if_icmp .ne 7, 3) := by decide +kernel
theorem dL_law_199 : decode cL_law 199 = .ok (.iconst 1, 1) := by decide +kernel
theorem dL_law_200 : decode cL_law 200 = .ok (.goto 4, 3) := by decide +kernel
theorem dL_law_203 : decode cL_law 203 = .ok (.iconst 0, 1) := by decide +kernel
theorem dL_law_204 : decode cL_law 204 = .ok (.ireturn, 1) := by decide +kernel
