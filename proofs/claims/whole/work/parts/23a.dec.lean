theorem d_M_one_0 : decode b_M_one 0 = .ok (.aload_n 0, 1) := by decide +kernel
theorem d_M_one_1 : decode b_M_one 1 = .ok (.getfield 26, 3) := by decide +kernel
theorem d_M_one_4 : decode b_M_one 4 = .ok (.iconst 0, 1) := by decide +kernel
theorem d_M_one_5 : decode b_M_one 5 = .ok (.aload_n 0, 1) := by decide +kernel
theorem d_M_one_6 : decode b_M_one 6 = .ok (.getfield 13, 3) := by decide +kernel
theorem d_M_one_9 : decode b_M_one 9 = .ok (.iload_n 1, 1) := by decide +kernel
theorem d_M_one_10 : decode b_M_one 10 = .ok (.iload_n 2, 1) := by decide +kernel
theorem d_M_one_11 : decode b_M_one 11 = .ok (.i2l, 1) := by decide +kernel
theorem d_M_one_12 : decode b_M_one 12 = .ok (.lconst 0, 1) := by decide +kernel
theorem d_M_one_13 : decode b_M_one 13 = .ok (.lconst 0, 1) := by decide +kernel
theorem d_M_one_14 : decode b_M_one 14 = .ok (.iload_n 2, 1) := by decide +kernel
theorem d_M_one_15 : decode b_M_one 15 = .ok (.i2l, 1) := by decide +kernel
theorem d_M_one_16 : decode b_M_one 16 = .ok (.lconst 0, 1) := by decide +kernel
theorem d_M_one_17 : decode b_M_one 17 = .ok (.lconst 0, 1) := by decide +kernel
theorem d_M_one_18 : decode b_M_one 18 = .ok (.invokestatic 87, 3) := by decide +kernel
theorem d_M_one_21 : decode b_M_one 21 = .ok (.lastore, 1) := by decide +kernel
theorem d_M_one_22 : decode b_M_one 22 = .ok (.aload_n 0, 1) := by decide +kernel
theorem d_M_one_23 : decode b_M_one 23 = .ok (.getfield 26, 3) := by decide +kernel
theorem d_M_one_26 : decode b_M_one 26 = .ok (.iconst 1, 1) := by decide +kernel
theorem d_M_one_27 : decode b_M_one 27 = .ok (.aload_n 0, 1) := by decide +kernel
theorem d_M_one_28 : decode b_M_one 28 = .ok (.getfield 13, 3) := by decide +kernel
theorem d_M_one_31 : decode b_M_one 31 = .ok (.iload_n 1, 1) := by decide +kernel
theorem d_M_one_32 : decode b_M_one 32 = .ok (.iload_n 3, 1) := by decide +kernel
theorem d_M_one_33 : decode b_M_one 33 = .ok (.i2l, 1) := by decide +kernel
theorem d_M_one_34 : decode b_M_one 34 = .ok (.iload 4, 2) := by decide +kernel
theorem d_M_one_36 : decode b_M_one 36 = .ok (.i2l, 1) := by decide +kernel
theorem d_M_one_37 : decode b_M_one 37 = .ok (.lconst 0, 1) := by decide +kernel
theorem d_M_one_38 : decode b_M_one 38 = .ok (.iload_n 3, 1) := by decide +kernel
theorem d_M_one_39 : decode b_M_one 39 = .ok (.i2l, 1) := by decide +kernel
theorem d_M_one_40 : decode b_M_one 40 = .ok (.iload 4, 2) := by decide +kernel
theorem d_M_one_42 : decode b_M_one 42 = .ok (.i2l, 1) := by decide +kernel
theorem d_M_one_43 : decode b_M_one 43 = .ok (.lconst 0, 1) := by decide +kernel
theorem d_M_one_44 : decode b_M_one 44 = .ok (.invokestatic 87, 3) := by decide +kernel
theorem d_M_one_47 : decode b_M_one 47 = .ok (.lastore, 1) := by decide +kernel
theorem d_M_one_48 : decode b_M_one 48 = .ok (.aload_n 0, 1) := by decide +kernel
theorem d_M_one_49 : decode b_M_one 49 = .ok (.getfield 26, 3) := by decide +kernel
theorem d_M_one_52 : decode b_M_one 52 = .ok (.iconst 2, 1) := by decide +kernel
theorem d_M_one_53 : decode b_M_one 53 = .ok (.aload_n 0, 1) := by decide +kernel
theorem d_M_one_54 : decode b_M_one 54 = .ok (.getfield 13, 3) := by decide +kernel
theorem d_M_one_57 : decode b_M_one 57 = .ok (.iload_n 1, 1) := by decide +kernel
theorem d_M_one_58 : decode b_M_one 58 = .ok (.iload 5, 2) := by decide +kernel
theorem d_M_one_60 : decode b_M_one 60 = .ok (.i2l, 1) := by decide +kernel
theorem d_M_one_61 : decode b_M_one 61 = .ok (.iload 6, 2) := by decide +kernel
theorem d_M_one_63 : decode b_M_one 63 = .ok (.i2l, 1) := by decide +kernel
theorem d_M_one_64 : decode b_M_one 64 = .ok (.iload 7, 2) := by decide +kernel
theorem d_M_one_66 : decode b_M_one 66 = .ok (.i2l, 1) := by decide +kernel
theorem d_M_one_67 : decode b_M_one 67 = .ok (.iload 5, 2) := by decide +kernel
theorem d_M_one_69 : decode b_M_one 69 = .ok (.i2l, 1) := by decide +kernel
theorem d_M_one_70 : decode b_M_one 70 = .ok (.iload 6, 2) := by decide +kernel
theorem d_M_one_72 : decode b_M_one 72 = .ok (.i2l, 1) := by decide +kernel
theorem d_M_one_73 : decode b_M_one 73 = .ok (.iload 7, 2) := by decide +kernel
theorem d_M_one_75 : decode b_M_one 75 = .ok (.i2l, 1) := by decide +kernel
theorem d_M_one_76 : decode b_M_one 76 = .ok (.invokestatic 87, 3) := by decide +kernel
theorem d_M_one_79 : decode b_M_one 79 = .ok (.lastore, 1) := by decide +kernel
theorem d_M_one_80 : decode b_M_one 80 = .ok (.aload_n 0, 1) := by decide +kernel
theorem d_M_one_81 : decode b_M_one 81 = .ok (.getfield 26, 3) := by decide +kernel
theorem d_M_one_84 : decode b_M_one 84 = .ok (.iconst 3, 1) := by decide +kernel
theorem d_M_one_85 : decode b_M_one 85 = .ok (.aload_n 0, 1) := by decide +kernel
theorem d_M_one_86 : decode b_M_one 86 = .ok (.getfield 13, 3) := by decide +kernel
theorem d_M_one_89 : decode b_M_one 89 = .ok (.iload_n 1, 1) := by decide +kernel
theorem d_M_one_90 : decode b_M_one 90 = .ok (.iload_n 3, 1) := by decide +kernel
theorem d_M_one_91 : decode b_M_one 91 = .ok (.i2l, 1) := by decide +kernel
theorem d_M_one_92 : decode b_M_one 92 = .ok (.iload 4, 2) := by decide +kernel
theorem d_M_one_94 : decode b_M_one 94 = .ok (.i2l, 1) := by decide +kernel
theorem d_M_one_95 : decode b_M_one 95 = .ok (.lconst 0, 1) := by decide +kernel
theorem d_M_one_96 : decode b_M_one 96 = .ok (.iload 5, 2) := by decide +kernel
theorem d_M_one_98 : decode b_M_one 98 = .ok (.i2l, 1) := by decide +kernel
theorem d_M_one_99 : decode b_M_one 99 = .ok (.iload 6, 2) := by decide +kernel
theorem d_M_one_101 : decode b_M_one 101 = .ok (.i2l, 1) := by decide +kernel
theorem d_M_one_102 : decode b_M_one 102 = .ok (.iload 7, 2) := by decide +kernel
theorem d_M_one_104 : decode b_M_one 104 = .ok (.i2l, 1) := by decide +kernel
theorem d_M_one_105 : decode b_M_one 105 = .ok (.invokestatic 87, 3) := by decide +kernel
theorem d_M_one_108 : decode b_M_one 108 = .ok (.lastore, 1) := by decide +kernel
theorem d_M_one_109 : decode b_M_one 109 = .ok (.aload_n 0, 1) := by decide +kernel
theorem d_M_one_110 : decode b_M_one 110 = .ok (.getfield 26, 3) := by decide +kernel
theorem d_M_one_113 : decode b_M_one 113 = .ok (.iconst 4, 1) := by decide +kernel
theorem d_M_one_114 : decode b_M_one 114 = .ok (.aload_n 0, 1) := by decide +kernel
theorem d_M_one_115 : decode b_M_one 115 = .ok (.getfield 13, 3) := by decide +kernel
theorem d_M_one_118 : decode b_M_one 118 = .ok (.iload_n 1, 1) := by decide +kernel
theorem d_M_one_119 : decode b_M_one 119 = .ok (.iload_n 2, 1) := by decide +kernel
theorem d_M_one_120 : decode b_M_one 120 = .ok (.i2l, 1) := by decide +kernel
theorem d_M_one_121 : decode b_M_one 121 = .ok (.lconst 0, 1) := by decide +kernel
theorem d_M_one_122 : decode b_M_one 122 = .ok (.lconst 0, 1) := by decide +kernel
theorem d_M_one_123 : decode b_M_one 123 = .ok (.iload 5, 2) := by decide +kernel
theorem d_M_one_125 : decode b_M_one 125 = .ok (.i2l, 1) := by decide +kernel
theorem d_M_one_126 : decode b_M_one 126 = .ok (.iload 6, 2) := by decide +kernel
theorem d_M_one_128 : decode b_M_one 128 = .ok (.i2l, 1) := by decide +kernel
theorem d_M_one_129 : decode b_M_one 129 = .ok (.iload 7, 2) := by decide +kernel
theorem d_M_one_131 : decode b_M_one 131 = .ok (.i2l, 1) := by decide +kernel
theorem d_M_one_132 : decode b_M_one 132 = .ok (.invokestatic 87, 3) := by decide +kernel
theorem d_M_one_135 : decode b_M_one 135 = .ok (.lastore, 1) := by decide +kernel
theorem d_M_one_136 : decode b_M_one 136 = .ok (.aload_n 0, 1) := by decide +kernel
theorem d_M_one_137 : decode b_M_one 137 = .ok (.getfield 26, 3) := by decide +kernel
theorem d_M_one_140 : decode b_M_one 140 = .ok (.iconst 5, 1) := by decide +kernel
theorem d_M_one_141 : decode b_M_one 141 = .ok (.aload_n 0, 1) := by decide +kernel
theorem d_M_one_142 : decode b_M_one 142 = .ok (.getfield 13, 3) := by decide +kernel
theorem d_M_one_145 : decode b_M_one 145 = .ok (.iload_n 1, 1) := by decide +kernel
theorem d_M_one_146 : decode b_M_one 146 = .ok (.iload_n 2, 1) := by decide +kernel
theorem d_M_one_147 : decode b_M_one 147 = .ok (.i2l, 1) := by decide +kernel
theorem d_M_one_148 : decode b_M_one 148 = .ok (.lconst 0, 1) := by decide +kernel
theorem d_M_one_149 : decode b_M_one 149 = .ok (.lconst 0, 1) := by decide +kernel
theorem d_M_one_150 : decode b_M_one 150 = .ok (.iload_n 3, 1) := by decide +kernel
theorem d_M_one_151 : decode b_M_one 151 = .ok (.i2l, 1) := by decide +kernel
theorem d_M_one_152 : decode b_M_one 152 = .ok (.iload 4, 2) := by decide +kernel
theorem d_M_one_154 : decode b_M_one 154 = .ok (.i2l, 1) := by decide +kernel
theorem d_M_one_155 : decode b_M_one 155 = .ok (.lconst 0, 1) := by decide +kernel
theorem d_M_one_156 : decode b_M_one 156 = .ok (.invokestatic 87, 3) := by decide +kernel
theorem d_M_one_159 : decode b_M_one 159 = .ok (.lastore, 1) := by decide +kernel
theorem d_M_one_160 : decode b_M_one 160 = .ok (.aload_n 0, 1) := by decide +kernel
theorem d_M_one_161 : decode b_M_one 161 = .ok (.invokevirtual 60, 3) := by decide +kernel
theorem d_M_one_164 : decode b_M_one 164 = .ok (.aload_n 0, 1) := by decide +kernel
theorem d_M_one_165 : decode b_M_one 165 = .ok (.getfield 102, 3) := by decide +kernel
theorem d_M_one_168 : decode b_M_one 168 = .ok (.istore 8, 2) := by decide +kernel
theorem d_M_one_170 : decode b_M_one 170 = .ok (.iload 8, 2) := by decide +kernel
theorem d_M_one_172 : decode b_M_one 172 = .ok (.ifCond .le 20, 3) := by decide +kernel
theorem d_M_one_175 : decode b_M_one 175 = .ok (.aload_n 0, 1) := by decide +kernel
theorem d_M_one_176 : decode b_M_one 176 = .ok (.iload 8, 2) := by decide +kernel
theorem d_M_one_178 : decode b_M_one 178 = .ok (.iconst 1, 1) := by decide +kernel
theorem d_M_one_179 : decode b_M_one 179 = .ok (.isub, 1) := by decide +kernel
theorem d_M_one_180 : decode b_M_one 180 = .ok (.invokevirtual 109, 3) := by decide +kernel
theorem d_M_one_183 : decode b_M_one 183 = .ok (.ifCond .ge 9, 3) := by decide +kernel
theorem d_M_one_186 : decode b_M_one 186 = .ok (.iinc 8 (-1), 3) := by decide +kernel
theorem d_M_one_189 : decode b_M_one 189 = .ok (.goto (-19), 3) := by decide +kernel
theorem d_M_one_192 : decode b_M_one 192 = .ok (.iload 8, 2) := by decide +kernel
theorem d_M_one_194 : decode b_M_one 194 = .ok (.ifCond .le 28, 3) := by decide +kernel
theorem d_M_one_197 : decode b_M_one 197 = .ok (.aload_n 0, 1) := by decide +kernel
theorem d_M_one_198 : decode b_M_one 198 = .ok (.iload 8, 2) := by decide +kernel
theorem d_M_one_200 : decode b_M_one 200 = .ok (.iconst 1, 1) := by decide +kernel
theorem d_M_one_201 : decode b_M_one 201 = .ok (.isub, 1) := by decide +kernel
theorem d_M_one_202 : decode b_M_one 202 = .ok (.invokevirtual 109, 3) := by decide +kernel
theorem d_M_one_205 : decode b_M_one 205 = .ok (.ifCond .ne 17, 3) := by decide +kernel
theorem d_M_one_208 : decode b_M_one 208 = .ok (.aload_n 0, 1) := by decide +kernel
theorem d_M_one_209 : decode b_M_one 209 = .ok (.getfield 32, 3) := by decide +kernel
theorem d_M_one_212 : decode b_M_one 212 = .ok (.iload 8, 2) := by decide +kernel
theorem d_M_one_214 : decode b_M_one 214 = .ok (.iconst 1, 1) := by decide +kernel
theorem d_M_one_215 : decode b_M_one 215 = .ok (.isub, 1) := by decide +kernel
theorem d_M_one_216 : decode b_M_one 216 = .ok (.dup2, 1) := by decide +kernel
theorem d_M_one_217 : decode b_M_one 217 = .ok (.iaload, 1) := by decide +kernel
theorem d_M_one_218 : decode b_M_one 218 = .ok (.iconst 1, 1) := by decide +kernel
theorem d_M_one_219 : decode b_M_one 219 = .ok (.iadd, 1) := by decide +kernel
theorem d_M_one_220 : decode b_M_one 220 = .ok (.iastore, 1) := by decide +kernel
theorem d_M_one_221 : decode b_M_one 221 = .ok (.return_, 1) := by decide +kernel
theorem d_M_one_222 : decode b_M_one 222 = .ok (.bipush 6, 2) := by decide +kernel
theorem d_M_one_224 : decode b_M_one 224 = .ok (.aload_n 0, 1) := by decide +kernel
theorem d_M_one_225 : decode b_M_one 225 = .ok (.getfield 102, 3) := by decide +kernel
theorem d_M_one_228 : decode b_M_one 228 = .ok (.imul, 1) := by decide +kernel
theorem d_M_one_229 : decode b_M_one 229 = .ok (.iconst 1, 1) := by decide +kernel
theorem d_M_one_230 : decode b_M_one 230 = .ok (.isub, 1) := by decide +kernel
theorem d_M_one_231 : decode b_M_one 231 = .ok (.istore 9, 2) := by decide +kernel
theorem d_M_one_233 : decode b_M_one 233 = .ok (.iload 9, 2) := by decide +kernel
theorem d_M_one_235 : decode b_M_one 235 = .ok (.bipush 6, 2) := by decide +kernel
theorem d_M_one_237 : decode b_M_one 237 = .ok (.iload 8, 2) := by decide +kernel
theorem d_M_one_239 : decode b_M_one 239 = .ok (.imul, 1) := by decide +kernel
theorem d_M_one_240 : decode b_M_one 240 = .ok (.if_icmp .lt 26, 3) := by decide +kernel
theorem d_M_one_243 : decode b_M_one 243 = .ok (.aload_n 0, 1) := by decide +kernel
theorem d_M_one_244 : decode b_M_one 244 = .ok (.getfield 29, 3) := by decide +kernel
theorem d_M_one_247 : decode b_M_one 247 = .ok (.iload 9, 2) := by decide +kernel
theorem d_M_one_249 : decode b_M_one 249 = .ok (.bipush 6, 2) := by decide +kernel
theorem d_M_one_251 : decode b_M_one 251 = .ok (.iadd, 1) := by decide +kernel
theorem d_M_one_252 : decode b_M_one 252 = .ok (.aload_n 0, 1) := by decide +kernel
theorem d_M_one_253 : decode b_M_one 253 = .ok (.getfield 29, 3) := by decide +kernel
theorem d_M_one_256 : decode b_M_one 256 = .ok (.iload 9, 2) := by decide +kernel
theorem d_M_one_258 : decode b_M_one 258 = .ok (.laload, 1) := by decide +kernel
theorem d_M_one_259 : decode b_M_one 259 = .ok (.lastore, 1) := by decide +kernel
theorem d_M_one_260 : decode b_M_one 260 = .ok (.iinc 9 (-1), 3) := by decide +kernel
theorem d_M_one_263 : decode b_M_one 263 = .ok (.goto (-30), 3) := by decide +kernel
theorem d_M_one_266 : decode b_M_one 266 = .ok (.aload_n 0, 1) := by decide +kernel
theorem d_M_one_267 : decode b_M_one 267 = .ok (.getfield 102, 3) := by decide +kernel
theorem d_M_one_270 : decode b_M_one 270 = .ok (.istore 9, 2) := by decide +kernel
theorem d_M_one_272 : decode b_M_one 272 = .ok (.iload 9, 2) := by decide +kernel
theorem d_M_one_274 : decode b_M_one 274 = .ok (.iload 8, 2) := by decide +kernel
theorem d_M_one_276 : decode b_M_one 276 = .ok (.if_icmp .le 25, 3) := by decide +kernel
theorem d_M_one_279 : decode b_M_one 279 = .ok (.aload_n 0, 1) := by decide +kernel
theorem d_M_one_280 : decode b_M_one 280 = .ok (.getfield 32, 3) := by decide +kernel
theorem d_M_one_283 : decode b_M_one 283 = .ok (.iload 9, 2) := by decide +kernel
theorem d_M_one_285 : decode b_M_one 285 = .ok (.aload_n 0, 1) := by decide +kernel
theorem d_M_one_286 : decode b_M_one 286 = .ok (.getfield 32, 3) := by decide +kernel
theorem d_M_one_289 : decode b_M_one 289 = .ok (.iload 9, 2) := by decide +kernel
theorem d_M_one_291 : decode b_M_one 291 = .ok (.iconst 1, 1) := by decide +kernel
theorem d_M_one_292 : decode b_M_one 292 = .ok (.isub, 1) := by decide +kernel
theorem d_M_one_293 : decode b_M_one 293 = .ok (.iaload, 1) := by decide +kernel
theorem d_M_one_294 : decode b_M_one 294 = .ok (.iastore, 1) := by decide +kernel
theorem d_M_one_295 : decode b_M_one 295 = .ok (.iinc 9 (-1), 3) := by decide +kernel
theorem d_M_one_298 : decode b_M_one 298 = .ok (.goto (-26), 3) := by decide +kernel
theorem d_M_one_301 : decode b_M_one 301 = .ok (.aload_n 0, 1) := by decide +kernel
theorem d_M_one_302 : decode b_M_one 302 = .ok (.getfield 32, 3) := by decide +kernel
theorem d_M_one_305 : decode b_M_one 305 = .ok (.iload 8, 2) := by decide +kernel
theorem d_M_one_307 : decode b_M_one 307 = .ok (.iconst 1, 1) := by decide +kernel
theorem d_M_one_308 : decode b_M_one 308 = .ok (.iastore, 1) := by decide +kernel
theorem d_M_one_309 : decode b_M_one 309 = .ok (.iconst 0, 1) := by decide +kernel
theorem d_M_one_310 : decode b_M_one 310 = .ok (.istore 9, 2) := by decide +kernel
theorem d_M_one_312 : decode b_M_one 312 = .ok (.iload 9, 2) := by decide +kernel
theorem d_M_one_314 : decode b_M_one 314 = .ok (.bipush 6, 2) := by decide +kernel
theorem d_M_one_316 : decode b_M_one 316 = .ok (.if_icmp .ge 29, 3) := by decide +kernel
theorem d_M_one_319 : decode b_M_one 319 = .ok (.aload_n 0, 1) := by decide +kernel
theorem d_M_one_320 : decode b_M_one 320 = .ok (.getfield 29, 3) := by decide +kernel
theorem d_M_one_323 : decode b_M_one 323 = .ok (.bipush 6, 2) := by decide +kernel
theorem d_M_one_325 : decode b_M_one 325 = .ok (.iload 8, 2) := by decide +kernel
theorem d_M_one_327 : decode b_M_one 327 = .ok (.imul, 1) := by decide +kernel
theorem d_M_one_328 : decode b_M_one 328 = .ok (.iload 9, 2) := by decide +kernel
theorem d_M_one_330 : decode b_M_one 330 = .ok (.iadd, 1) := by decide +kernel
theorem d_M_one_331 : decode b_M_one 331 = .ok (.aload_n 0, 1) := by decide +kernel
theorem d_M_one_332 : decode b_M_one 332 = .ok (.getfield 26, 3) := by decide +kernel
theorem d_M_one_335 : decode b_M_one 335 = .ok (.iload 9, 2) := by decide +kernel
theorem d_M_one_337 : decode b_M_one 337 = .ok (.laload, 1) := by decide +kernel
theorem d_M_one_338 : decode b_M_one 338 = .ok (.lastore, 1) := by decide +kernel
theorem d_M_one_339 : decode b_M_one 339 = .ok (.iinc 9 1, 3) := by decide +kernel
theorem d_M_one_342 : decode b_M_one 342 = .ok (.goto (-30), 3) := by decide +kernel
theorem d_M_one_345 : decode b_M_one 345 = .ok (.aload_n 0, 1) := by decide +kernel
theorem d_M_one_346 : decode b_M_one 346 = .ok (.dup, 1) := by decide +kernel
theorem d_M_one_347 : decode b_M_one 347 = .ok (.getfield 102, 3) := by decide +kernel
theorem d_M_one_350 : decode b_M_one 350 = .ok (.iconst 1, 1) := by decide +kernel
theorem d_M_one_351 : decode b_M_one 351 = .ok (.iadd, 1) := by decide +kernel
theorem d_M_one_352 : decode b_M_one 352 = .ok (.putfield 102, 3) := by decide +kernel
theorem d_M_one_355 : decode b_M_one 355 = .ok (.return_, 1) := by decide +kernel
theorem d_M_mult_0 : decode b_M_mult 0 = .ok (.aload_n 0, 1) := by decide +kernel
theorem d_M_mult_1 : decode b_M_mult 1 = .ok (.getfield 35, 3) := by decide +kernel
theorem d_M_mult_4 : decode b_M_mult 4 = .ok (.iload_n 1, 1) := by decide +kernel
theorem d_M_mult_5 : decode b_M_mult 5 = .ok (.if_icmp .ne 12, 3) := by decide +kernel
theorem d_M_mult_8 : decode b_M_mult 8 = .ok (.aload_n 0, 1) := by decide +kernel
theorem d_M_mult_9 : decode b_M_mult 9 = .ok (.getfield 99, 3) := by decide +kernel
theorem d_M_mult_12 : decode b_M_mult 12 = .ok (.iload_n 2, 1) := by decide +kernel
theorem d_M_mult_13 : decode b_M_mult 13 = .ok (.if_icmp .ne 4, 3) := by decide +kernel
theorem d_M_mult_16 : decode b_M_mult 16 = .ok (.return_, 1) := by decide +kernel
theorem d_M_mult_17 : decode b_M_mult 17 = .ok (.aload_n 0, 1) := by decide +kernel
theorem d_M_mult_18 : decode b_M_mult 18 = .ok (.iload_n 1, 1) := by decide +kernel
theorem d_M_mult_19 : decode b_M_mult 19 = .ok (.putfield 35, 3) := by decide +kernel
theorem d_M_mult_22 : decode b_M_mult 22 = .ok (.aload_n 0, 1) := by decide +kernel
theorem d_M_mult_23 : decode b_M_mult 23 = .ok (.iload_n 2, 1) := by decide +kernel
theorem d_M_mult_24 : decode b_M_mult 24 = .ok (.putfield 99, 3) := by decide +kernel
theorem d_M_mult_27 : decode b_M_mult 27 = .ok (.aload_n 0, 1) := by decide +kernel
theorem d_M_mult_28 : decode b_M_mult 28 = .ok (.iconst 0, 1) := by decide +kernel
theorem d_M_mult_29 : decode b_M_mult 29 = .ok (.putfield 102, 3) := by decide +kernel
theorem d_M_mult_32 : decode b_M_mult 32 = .ok (.iconst 1, 1) := by decide +kernel
theorem d_M_mult_33 : decode b_M_mult 33 = .ok (.istore_n 3, 1) := by decide +kernel
theorem d_M_mult_34 : decode b_M_mult 34 = .ok (.iload_n 3, 1) := by decide +kernel
theorem d_M_mult_35 : decode b_M_mult 35 = .ok (.iload_n 2, 1) := by decide +kernel
theorem d_M_mult_36 : decode b_M_mult 36 = .ok (.if_icmp .gt 120, 3) := by decide +kernel
theorem d_M_mult_39 : decode b_M_mult 39 = .ok (.iload_n 2, 1) := by decide +kernel
theorem d_M_mult_40 : decode b_M_mult 40 = .ok (.iload_n 3, 1) := by decide +kernel
theorem d_M_mult_41 : decode b_M_mult 41 = .ok (.irem, 1) := by decide +kernel
theorem d_M_mult_42 : decode b_M_mult 42 = .ok (.ifCond .eq 6, 3) := by decide +kernel
theorem d_M_mult_45 : decode b_M_mult 45 = .ok (.goto 105, 3) := by decide +kernel
theorem d_M_mult_48 : decode b_M_mult 48 = .ok (.iconst 1, 1) := by decide +kernel
theorem d_M_mult_49 : decode b_M_mult 49 = .ok (.istore 4, 2) := by decide +kernel
theorem d_M_mult_51 : decode b_M_mult 51 = .ok (.iload 4, 2) := by decide +kernel
theorem d_M_mult_53 : decode b_M_mult 53 = .ok (.iload_n 2, 1) := by decide +kernel
theorem d_M_mult_54 : decode b_M_mult 54 = .ok (.iload_n 3, 1) := by decide +kernel
theorem d_M_mult_55 : decode b_M_mult 55 = .ok (.idiv, 1) := by decide +kernel
theorem d_M_mult_56 : decode b_M_mult 56 = .ok (.if_icmp .gt 94, 3) := by decide +kernel
theorem d_M_mult_59 : decode b_M_mult 59 = .ok (.iload_n 2, 1) := by decide +kernel
theorem d_M_mult_60 : decode b_M_mult 60 = .ok (.iload_n 3, 1) := by decide +kernel
theorem d_M_mult_61 : decode b_M_mult 61 = .ok (.idiv, 1) := by decide +kernel
theorem d_M_mult_62 : decode b_M_mult 62 = .ok (.iload 4, 2) := by decide +kernel
theorem d_M_mult_64 : decode b_M_mult 64 = .ok (.irem, 1) := by decide +kernel
theorem d_M_mult_65 : decode b_M_mult 65 = .ok (.ifCond .eq 6, 3) := by decide +kernel
theorem d_M_mult_68 : decode b_M_mult 68 = .ok (.goto 76, 3) := by decide +kernel
theorem d_M_mult_71 : decode b_M_mult 71 = .ok (.iload_n 2, 1) := by decide +kernel
theorem d_M_mult_72 : decode b_M_mult 72 = .ok (.iload_n 3, 1) := by decide +kernel
theorem d_M_mult_73 : decode b_M_mult 73 = .ok (.idiv, 1) := by decide +kernel
theorem d_M_mult_74 : decode b_M_mult 74 = .ok (.iload 4, 2) := by decide +kernel
theorem d_M_mult_76 : decode b_M_mult 76 = .ok (.idiv, 1) := by decide +kernel
theorem d_M_mult_77 : decode b_M_mult 77 = .ok (.istore 5, 2) := by decide +kernel
theorem d_M_mult_79 : decode b_M_mult 79 = .ok (.iconst 0, 1) := by decide +kernel
theorem d_M_mult_80 : decode b_M_mult 80 = .ok (.istore 6, 2) := by decide +kernel
theorem d_M_mult_82 : decode b_M_mult 82 = .ok (.iload 6, 2) := by decide +kernel
theorem d_M_mult_84 : decode b_M_mult 84 = .ok (.iload_n 3, 1) := by decide +kernel
theorem d_M_mult_85 : decode b_M_mult 85 = .ok (.if_icmp .ge 59, 3) := by decide +kernel
theorem d_M_mult_88 : decode b_M_mult 88 = .ok (.iconst 0, 1) := by decide +kernel
theorem d_M_mult_89 : decode b_M_mult 89 = .ok (.istore 7, 2) := by decide +kernel
theorem d_M_mult_91 : decode b_M_mult 91 = .ok (.iload 7, 2) := by decide +kernel
theorem d_M_mult_93 : decode b_M_mult 93 = .ok (.iload_n 3, 1) := by decide +kernel
theorem d_M_mult_94 : decode b_M_mult 94 = .ok (.if_icmp .ge 44, 3) := by decide +kernel
theorem d_M_mult_97 : decode b_M_mult 97 = .ok (.iconst 0, 1) := by decide +kernel
theorem d_M_mult_98 : decode b_M_mult 98 = .ok (.istore 8, 2) := by decide +kernel
theorem d_M_mult_100 : decode b_M_mult 100 = .ok (.iload 8, 2) := by decide +kernel
theorem d_M_mult_102 : decode b_M_mult 102 = .ok (.iload 4, 2) := by decide +kernel
theorem d_M_mult_104 : decode b_M_mult 104 = .ok (.if_icmp .ge 28, 3) := by decide +kernel
theorem d_M_mult_107 : decode b_M_mult 107 = .ok (.aload_n 0, 1) := by decide +kernel
theorem d_M_mult_108 : decode b_M_mult 108 = .ok (.bipush 6, 2) := by decide +kernel
theorem d_M_mult_110 : decode b_M_mult 110 = .ok (.iload_n 1, 1) := by decide +kernel
theorem d_M_mult_111 : decode b_M_mult 111 = .ok (.imul, 1) := by decide +kernel
theorem d_M_mult_112 : decode b_M_mult 112 = .ok (.iload_n 3, 1) := by decide +kernel
theorem d_M_mult_113 : decode b_M_mult 113 = .ok (.iload 6, 2) := by decide +kernel
theorem d_M_mult_115 : decode b_M_mult 115 = .ok (.iload 4, 2) := by decide +kernel
theorem d_M_mult_117 : decode b_M_mult 117 = .ok (.iload 7, 2) := by decide +kernel
theorem d_M_mult_119 : decode b_M_mult 119 = .ok (.iload 8, 2) := by decide +kernel
theorem d_M_mult_121 : decode b_M_mult 121 = .ok (.iload 5, 2) := by decide +kernel
theorem d_M_mult_123 : decode b_M_mult 123 = .ok (.invokevirtual 105, 3) := by decide +kernel
theorem d_M_mult_126 : decode b_M_mult 126 = .ok (.iinc 8 1, 3) := by decide +kernel
theorem d_M_mult_129 : decode b_M_mult 129 = .ok (.goto (-29), 3) := by decide +kernel
theorem d_M_mult_132 : decode b_M_mult 132 = .ok (.iinc 7 1, 3) := by decide +kernel
theorem d_M_mult_135 : decode b_M_mult 135 = .ok (.goto (-44), 3) := by decide +kernel
theorem d_M_mult_138 : decode b_M_mult 138 = .ok (.iinc 6 1, 3) := by decide +kernel
theorem d_M_mult_141 : decode b_M_mult 141 = .ok (.goto (-59), 3) := by decide +kernel
theorem d_M_mult_144 : decode b_M_mult 144 = .ok (.iinc 4 1, 3) := by decide +kernel
theorem d_M_mult_147 : decode b_M_mult 147 = .ok (.goto (-96), 3) := by decide +kernel
theorem d_M_mult_150 : decode b_M_mult 150 = .ok (.iinc 3 1, 3) := by decide +kernel
theorem d_M_mult_153 : decode b_M_mult 153 = .ok (.goto (-119), 3) := by decide +kernel
theorem d_M_mult_156 : decode b_M_mult 156 = .ok (.return_, 1) := by decide +kernel
theorem d_M_multiples_0 : decode b_M_multiples 0 = .ok (.aload_n 0, 1) := by decide +kernel
theorem d_M_multiples_1 : decode b_M_multiples 1 = .ok (.iload_n 1, 1) := by decide +kernel
theorem d_M_multiples_2 : decode b_M_multiples 2 = .ok (.iload_n 2, 1) := by decide +kernel
theorem d_M_multiples_3 : decode b_M_multiples 3 = .ok (.invokevirtual 113, 3) := by decide +kernel
theorem d_M_multiples_6 : decode b_M_multiples 6 = .ok (.ifCond .ne 5, 3) := by decide +kernel
theorem d_M_multiples_9 : decode b_M_multiples 9 = .ok (.iconst (-1), 1) := by decide +kernel
theorem d_M_multiples_10 : decode b_M_multiples 10 = .ok (.ireturn, 1) := by decide +kernel
theorem d_M_multiples_11 : decode b_M_multiples 11 = .ok (.aload_n 0, 1) := by decide +kernel
theorem d_M_multiples_12 : decode b_M_multiples 12 = .ok (.iload_n 1, 1) := by decide +kernel
theorem d_M_multiples_13 : decode b_M_multiples 13 = .ok (.iload_n 2, 1) := by decide +kernel
theorem d_M_multiples_14 : decode b_M_multiples 14 = .ok (.invokevirtual 116, 3) := by decide +kernel
theorem d_M_multiples_17 : decode b_M_multiples 17 = .ok (.aload_n 0, 1) := by decide +kernel
theorem d_M_multiples_18 : decode b_M_multiples 18 = .ok (.getfield 102, 3) := by decide +kernel
theorem d_M_multiples_21 : decode b_M_multiples 21 = .ok (.ireturn, 1) := by decide +kernel
theorem d_M_multiple_0 : decode b_M_multiple 0 = .ok (.aload_n 0, 1) := by decide +kernel
theorem d_M_multiple_1 : decode b_M_multiple 1 = .ok (.iload_n 1, 1) := by decide +kernel
theorem d_M_multiple_2 : decode b_M_multiple 2 = .ok (.iload_n 2, 1) := by decide +kernel
theorem d_M_multiple_3 : decode b_M_multiple 3 = .ok (.invokevirtual 113, 3) := by decide +kernel
theorem d_M_multiple_6 : decode b_M_multiple 6 = .ok (.ifCond .eq 19, 3) := by decide +kernel
theorem d_M_multiple_9 : decode b_M_multiple 9 = .ok (.iload 4, 2) := by decide +kernel
theorem d_M_multiple_11 : decode b_M_multiple 11 = .ok (.ifCond .lt 14, 3) := by decide +kernel
theorem d_M_multiple_14 : decode b_M_multiple 14 = .ok (.iload 4, 2) := by decide +kernel
theorem d_M_multiple_16 : decode b_M_multiple 16 = .ok (.bipush 6, 2) := by decide +kernel
theorem d_M_multiple_18 : decode b_M_multiple 18 = .ok (.if_icmp .gt 7, 3) := by decide +kernel
theorem d_M_multiple_21 : decode b_M_multiple 21 = .ok (.iload_n 3, 1) := by decide +kernel
theorem d_M_multiple_22 : decode b_M_multiple 22 = .ok (.ifCond .ge 5, 3) := by decide +kernel
theorem d_M_multiple_25 : decode b_M_multiple 25 = .ok (.lconst 0, 1) := by decide +kernel
theorem d_M_multiple_26 : decode b_M_multiple 26 = .ok (.lreturn, 1) := by decide +kernel
theorem d_M_multiple_27 : decode b_M_multiple 27 = .ok (.aload_n 0, 1) := by decide +kernel
theorem d_M_multiple_28 : decode b_M_multiple 28 = .ok (.iload_n 1, 1) := by decide +kernel
theorem d_M_multiple_29 : decode b_M_multiple 29 = .ok (.iload_n 2, 1) := by decide +kernel
theorem d_M_multiple_30 : decode b_M_multiple 30 = .ok (.invokevirtual 116, 3) := by decide +kernel
theorem d_M_multiple_33 : decode b_M_multiple 33 = .ok (.iload_n 3, 1) := by decide +kernel
theorem d_M_multiple_34 : decode b_M_multiple 34 = .ok (.aload_n 0, 1) := by decide +kernel
theorem d_M_multiple_35 : decode b_M_multiple 35 = .ok (.getfield 102, 3) := by decide +kernel
theorem d_M_multiple_38 : decode b_M_multiple 38 = .ok (.if_icmp .lt 5, 3) := by decide +kernel
theorem d_M_multiple_41 : decode b_M_multiple 41 = .ok (.lconst 0, 1) := by decide +kernel
theorem d_M_multiple_42 : decode b_M_multiple 42 = .ok (.lreturn, 1) := by decide +kernel
theorem d_M_multiple_43 : decode b_M_multiple 43 = .ok (.iload 4, 2) := by decide +kernel
theorem d_M_multiple_45 : decode b_M_multiple 45 = .ok (.bipush 6, 2) := by decide +kernel
theorem d_M_multiple_47 : decode b_M_multiple 47 = .ok (.if_icmp .ge 18, 3) := by decide +kernel
theorem d_M_multiple_50 : decode b_M_multiple 50 = .ok (.aload_n 0, 1) := by decide +kernel
theorem d_M_multiple_51 : decode b_M_multiple 51 = .ok (.getfield 29, 3) := by decide +kernel
theorem d_M_multiple_54 : decode b_M_multiple 54 = .ok (.bipush 6, 2) := by decide +kernel
theorem d_M_multiple_56 : decode b_M_multiple 56 = .ok (.iload_n 3, 1) := by decide +kernel
theorem d_M_multiple_57 : decode b_M_multiple 57 = .ok (.imul, 1) := by decide +kernel
theorem d_M_multiple_58 : decode b_M_multiple 58 = .ok (.iload 4, 2) := by decide +kernel
theorem d_M_multiple_60 : decode b_M_multiple 60 = .ok (.iadd, 1) := by decide +kernel
theorem d_M_multiple_61 : decode b_M_multiple 61 = .ok (.laload, 1) := by decide +kernel
theorem d_M_multiple_62 : decode b_M_multiple 62 = .ok (.goto 10, 3) := by decide +kernel
theorem d_M_multiple_65 : decode b_M_multiple 65 = .ok (.aload_n 0, 1) := by decide +kernel
theorem d_M_multiple_66 : decode b_M_multiple 66 = .ok (.getfield 32, 3) := by decide +kernel
theorem d_M_multiple_69 : decode b_M_multiple 69 = .ok (.iload_n 3, 1) := by decide +kernel
theorem d_M_multiple_70 : decode b_M_multiple 70 = .ok (.iaload, 1) := by decide +kernel
theorem d_M_multiple_71 : decode b_M_multiple 71 = .ok (.i2l, 1) := by decide +kernel
theorem d_M_multiple_72 : decode b_M_multiple 72 = .ok (.lreturn, 1) := by decide +kernel
theorem d_M_common_0 : decode b_M_common 0 = .ok (.aload_n 0, 1) := by decide +kernel
theorem d_M_common_1 : decode b_M_common 1 = .ok (.iload_n 1, 1) := by decide +kernel
theorem d_M_common_2 : decode b_M_common 2 = .ok (.iload_n 2, 1) := by decide +kernel
theorem d_M_common_3 : decode b_M_common 3 = .ok (.invokevirtual 113, 3) := by decide +kernel
theorem d_M_common_6 : decode b_M_common 6 = .ok (.ifCond .eq 13, 3) := by decide +kernel
theorem d_M_common_9 : decode b_M_common 9 = .ok (.aload_n 0, 1) := by decide +kernel
theorem d_M_common_10 : decode b_M_common 10 = .ok (.iload_n 3, 1) := by decide +kernel
theorem d_M_common_11 : decode b_M_common 11 = .ok (.iload 4, 2) := by decide +kernel
theorem d_M_common_13 : decode b_M_common 13 = .ok (.invokevirtual 113, 3) := by decide +kernel
theorem d_M_common_16 : decode b_M_common 16 = .ok (.ifCond .ne 5, 3) := by decide +kernel
theorem d_M_common_19 : decode b_M_common 19 = .ok (.iconst (-1), 1) := by decide +kernel
theorem d_M_common_20 : decode b_M_common 20 = .ok (.ireturn, 1) := by decide +kernel
theorem d_M_common_21 : decode b_M_common 21 = .ok (.aload_n 0, 1) := by decide +kernel
theorem d_M_common_22 : decode b_M_common 22 = .ok (.iload_n 3, 1) := by decide +kernel
theorem d_M_common_23 : decode b_M_common 23 = .ok (.iload 4, 2) := by decide +kernel
theorem d_M_common_25 : decode b_M_common 25 = .ok (.invokevirtual 116, 3) := by decide +kernel
theorem d_M_common_28 : decode b_M_common 28 = .ok (.aload_n 0, 1) := by decide +kernel
theorem d_M_common_29 : decode b_M_common 29 = .ok (.getfield 102, 3) := by decide +kernel
theorem d_M_common_32 : decode b_M_common 32 = .ok (.istore 5, 2) := by decide +kernel
theorem d_M_common_34 : decode b_M_common 34 = .ok (.iconst 0, 1) := by decide +kernel
theorem d_M_common_35 : decode b_M_common 35 = .ok (.istore 6, 2) := by decide +kernel
theorem d_M_common_37 : decode b_M_common 37 = .ok (.iload 6, 2) := by decide +kernel
theorem d_M_common_39 : decode b_M_common 39 = .ok (.bipush 6, 2) := by decide +kernel
theorem d_M_common_41 : decode b_M_common 41 = .ok (.iload 5, 2) := by decide +kernel
theorem d_M_common_43 : decode b_M_common 43 = .ok (.imul, 1) := by decide +kernel
theorem d_M_common_44 : decode b_M_common 44 = .ok (.if_icmp .ge 23, 3) := by decide +kernel
theorem d_M_common_47 : decode b_M_common 47 = .ok (.aload_n 0, 1) := by decide +kernel
theorem d_M_common_48 : decode b_M_common 48 = .ok (.getfield 39, 3) := by decide +kernel
theorem d_M_common_51 : decode b_M_common 51 = .ok (.iload 6, 2) := by decide +kernel
theorem d_M_common_53 : decode b_M_common 53 = .ok (.aload_n 0, 1) := by decide +kernel
theorem d_M_common_54 : decode b_M_common 54 = .ok (.getfield 29, 3) := by decide +kernel
theorem d_M_common_57 : decode b_M_common 57 = .ok (.iload 6, 2) := by decide +kernel
theorem d_M_common_59 : decode b_M_common 59 = .ok (.laload, 1) := by decide +kernel
theorem d_M_common_60 : decode b_M_common 60 = .ok (.lastore, 1) := by decide +kernel
theorem d_M_common_61 : decode b_M_common 61 = .ok (.iinc 6 1, 3) := by decide +kernel
theorem d_M_common_64 : decode b_M_common 64 = .ok (.goto (-27), 3) := by decide +kernel
theorem d_M_common_67 : decode b_M_common 67 = .ok (.aload_n 0, 1) := by decide +kernel
theorem d_M_common_68 : decode b_M_common 68 = .ok (.iload_n 1, 1) := by decide +kernel
theorem d_M_common_69 : decode b_M_common 69 = .ok (.iload_n 2, 1) := by decide +kernel
theorem d_M_common_70 : decode b_M_common 70 = .ok (.invokevirtual 116, 3) := by decide +kernel
theorem d_M_common_73 : decode b_M_common 73 = .ok (.iconst 0, 1) := by decide +kernel
theorem d_M_common_74 : decode b_M_common 74 = .ok (.istore 6, 2) := by decide +kernel
theorem d_M_common_76 : decode b_M_common 76 = .ok (.iconst 0, 1) := by decide +kernel
theorem d_M_common_77 : decode b_M_common 77 = .ok (.istore 7, 2) := by decide +kernel
theorem d_M_common_79 : decode b_M_common 79 = .ok (.iload 7, 2) := by decide +kernel
theorem d_M_common_81 : decode b_M_common 81 = .ok (.aload_n 0, 1) := by decide +kernel
theorem d_M_common_82 : decode b_M_common 82 = .ok (.getfield 102, 3) := by decide +kernel
theorem d_M_common_85 : decode b_M_common 85 = .ok (.if_icmp .ge 109, 3) := by decide +kernel
theorem d_M_common_88 : decode b_M_common 88 = .ok (.iconst 0, 1) := by decide +kernel
theorem d_M_common_89 : decode b_M_common 89 = .ok (.istore 8, 2) := by decide +kernel
theorem d_M_common_91 : decode b_M_common 91 = .ok (.iconst 0, 1) := by decide +kernel
theorem d_M_common_92 : decode b_M_common 92 = .ok (.istore 9, 2) := by decide +kernel
theorem d_M_common_94 : decode b_M_common 94 = .ok (.iload 9, 2) := by decide +kernel
theorem d_M_common_96 : decode b_M_common 96 = .ok (.iload 5, 2) := by decide +kernel
theorem d_M_common_98 : decode b_M_common 98 = .ok (.if_icmp .ge 75, 3) := by decide +kernel
theorem d_M_common_101 : decode b_M_common 101 = .ok (.iload 8, 2) := by decide +kernel
theorem d_M_common_103 : decode b_M_common 103 = .ok (.ifCond .ne 70, 3) := by decide +kernel
theorem d_M_common_106 : decode b_M_common 106 = .ok (.iconst 1, 1) := by decide +kernel
theorem d_M_common_107 : decode b_M_common 107 = .ok (.istore 8, 2) := by decide +kernel
theorem d_M_common_109 : decode b_M_common 109 = .ok (.iconst 0, 1) := by decide +kernel
theorem d_M_common_110 : decode b_M_common 110 = .ok (.istore 10, 2) := by decide +kernel
theorem d_M_common_112 : decode b_M_common 112 = .ok (.iload 10, 2) := by decide +kernel
theorem d_M_common_114 : decode b_M_common 114 = .ok (.bipush 6, 2) := by decide +kernel
theorem d_M_common_116 : decode b_M_common 116 = .ok (.if_icmp .ge 51, 3) := by decide +kernel
theorem d_M_common_119 : decode b_M_common 119 = .ok (.iload 8, 2) := by decide +kernel
theorem d_M_common_121 : decode b_M_common 121 = .ok (.ifCond .eq 46, 3) := by decide +kernel
theorem d_M_common_124 : decode b_M_common 124 = .ok (.aload_n 0, 1) := by decide +kernel
theorem d_M_common_125 : decode b_M_common 125 = .ok (.getfield 29, 3) := by decide +kernel
theorem d_M_common_128 : decode b_M_common 128 = .ok (.bipush 6, 2) := by decide +kernel
theorem d_M_common_130 : decode b_M_common 130 = .ok (.iload 7, 2) := by decide +kernel
theorem d_M_common_132 : decode b_M_common 132 = .ok (.imul, 1) := by decide +kernel
theorem d_M_common_133 : decode b_M_common 133 = .ok (.iload 10, 2) := by decide +kernel
theorem d_M_common_135 : decode b_M_common 135 = .ok (.iadd, 1) := by decide +kernel
theorem d_M_common_136 : decode b_M_common 136 = .ok (.laload, 1) := by decide +kernel
theorem d_M_common_137 : decode b_M_common 137 = .ok (.aload_n 0, 1) := by decide +kernel
theorem d_M_common_138 : decode b_M_common 138 = .ok (.getfield 39, 3) := by decide +kernel
theorem d_M_common_141 : decode b_M_common 141 = .ok (.bipush 6, 2) := by decide +kernel
theorem d_M_common_143 : decode b_M_common 143 = .ok (.iload 9, 2) := by decide +kernel
theorem d_M_common_145 : decode b_M_common 145 = .ok (.imul, 1) := by decide +kernel
theorem d_M_common_146 : decode b_M_common 146 = .ok (.iload 10, 2) := by decide +kernel
theorem d_M_common_148 : decode b_M_common 148 = .ok (.iadd, 1) := by decide +kernel
theorem d_M_common_149 : decode b_M_common 149 = .ok (.laload, 1) := by decide +kernel
theorem d_M_common_150 : decode b_M_common 150 = .ok (.lcmp, 1) := by decide +kernel
theorem d_M_common_151 : decode b_M_common 151 = .ok (.ifCond .ne 7, 3) := by decide +kernel
theorem d_M_common_154 : decode b_M_common 154 = .ok (.iconst 1, 1) := by decide +kernel
theorem d_M_common_155 : decode b_M_common 155 = .ok (.goto 4, 3) := by decide +kernel
theorem d_M_common_158 : decode b_M_common 158 = .ok (.iconst 0, 1) := by decide +kernel
theorem d_M_common_159 : decode b_M_common 159 = .ok (.istore 8, 2) := by decide +kernel
theorem d_M_common_161 : decode b_M_common 161 = .ok (.iinc 10 1, 3) := by decide +kernel
theorem d_M_common_164 : decode b_M_common 164 = .ok (.goto (-52), 3) := by decide +kernel
theorem d_M_common_167 : decode b_M_common 167 = .ok (.iinc 9 1, 3) := by decide +kernel
theorem d_M_common_170 : decode b_M_common 170 = .ok (.goto (-76), 3) := by decide +kernel
theorem d_M_common_173 : decode b_M_common 173 = .ok (.iload 6, 2) := by decide +kernel
theorem d_M_common_175 : decode b_M_common 175 = .ok (.iload 8, 2) := by decide +kernel
theorem d_M_common_177 : decode b_M_common 177 = .ok (.ifCond .eq 7, 3) := by decide +kernel
theorem d_M_common_180 : decode b_M_common 180 = .ok (.iconst 1, 1) := by decide +kernel
theorem d_M_common_181 : decode b_M_common 181 = .ok (.goto 4, 3) := by decide +kernel
theorem d_M_common_184 : decode b_M_common 184 = .ok (.iconst 0, 1) := by decide +kernel
theorem d_M_common_185 : decode b_M_common 185 = .ok (.iadd, 1) := by decide +kernel
theorem d_M_common_186 : decode b_M_common 186 = .ok (.istore 6, 2) := by decide +kernel
theorem d_M_common_188 : decode b_M_common 188 = .ok (.iinc 7 1, 3) := by decide +kernel
theorem d_M_common_191 : decode b_M_common 191 = .ok (.goto (-112), 3) := by decide +kernel
theorem d_M_common_194 : decode b_M_common 194 = .ok (.iload 6, 2) := by decide +kernel
theorem d_M_common_196 : decode b_M_common 196 = .ok (.ireturn, 1) := by decide +kernel
