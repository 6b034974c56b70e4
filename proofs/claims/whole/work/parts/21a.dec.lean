theorem d_M_goes_0 : decode b_M_goes 0 = .ok (.aload_n 0, 1) := by decide +kernel
theorem d_M_goes_1 : decode b_M_goes 1 = .ok (.getfield 26, 3) := by decide +kernel
theorem d_M_goes_4 : decode b_M_goes 4 = .ok (.iconst 0, 1) := by decide +kernel
theorem d_M_goes_5 : decode b_M_goes 5 = .ok (.laload, 1) := by decide +kernel
theorem d_M_goes_6 : decode b_M_goes 6 = .ok (.aload_n 0, 1) := by decide +kernel
theorem d_M_goes_7 : decode b_M_goes 7 = .ok (.getfield 26, 3) := by decide +kernel
theorem d_M_goes_10 : decode b_M_goes 10 = .ok (.iconst 1, 1) := by decide +kernel
theorem d_M_goes_11 : decode b_M_goes 11 = .ok (.laload, 1) := by decide +kernel
theorem d_M_goes_12 : decode b_M_goes 12 = .ok (.lcmp, 1) := by decide +kernel
theorem d_M_goes_13 : decode b_M_goes 13 = .ok (.ifCond .gt 41, 3) := by decide +kernel
theorem d_M_goes_16 : decode b_M_goes 16 = .ok (.aload_n 0, 1) := by decide +kernel
theorem d_M_goes_17 : decode b_M_goes 17 = .ok (.getfield 26, 3) := by decide +kernel
theorem d_M_goes_20 : decode b_M_goes 20 = .ok (.iconst 0, 1) := by decide +kernel
theorem d_M_goes_21 : decode b_M_goes 21 = .ok (.laload, 1) := by decide +kernel
theorem d_M_goes_22 : decode b_M_goes 22 = .ok (.aload_n 0, 1) := by decide +kernel
theorem d_M_goes_23 : decode b_M_goes 23 = .ok (.getfield 26, 3) := by decide +kernel
theorem d_M_goes_26 : decode b_M_goes 26 = .ok (.iconst 1, 1) := by decide +kernel
theorem d_M_goes_27 : decode b_M_goes 27 = .ok (.laload, 1) := by decide +kernel
theorem d_M_goes_28 : decode b_M_goes 28 = .ok (.lcmp, 1) := by decide +kernel
theorem d_M_goes_29 : decode b_M_goes 29 = .ok (.ifCond .ne 37, 3) := by decide +kernel
theorem d_M_goes_32 : decode b_M_goes 32 = .ok (.aload_n 0, 1) := by decide +kernel
theorem d_M_goes_33 : decode b_M_goes 33 = .ok (.getfield 26, 3) := by decide +kernel
theorem d_M_goes_36 : decode b_M_goes 36 = .ok (.iconst 3, 1) := by decide +kernel
theorem d_M_goes_37 : decode b_M_goes 37 = .ok (.laload, 1) := by decide +kernel
theorem d_M_goes_38 : decode b_M_goes 38 = .ok (.invokestatic 77, 3) := by decide +kernel
theorem d_M_goes_41 : decode b_M_goes 41 = .ok (.aload_n 0, 1) := by decide +kernel
theorem d_M_goes_42 : decode b_M_goes 42 = .ok (.getfield 26, 3) := by decide +kernel
theorem d_M_goes_45 : decode b_M_goes 45 = .ok (.iconst 4, 1) := by decide +kernel
theorem d_M_goes_46 : decode b_M_goes 46 = .ok (.laload, 1) := by decide +kernel
theorem d_M_goes_47 : decode b_M_goes 47 = .ok (.invokestatic 77, 3) := by decide +kernel
theorem d_M_goes_50 : decode b_M_goes 50 = .ok (.lcmp, 1) := by decide +kernel
theorem d_M_goes_51 : decode b_M_goes 51 = .ok (.ifCond .le 15, 3) := by decide +kernel
theorem d_M_goes_54 : decode b_M_goes 54 = .ok (.aload_n 0, 1) := by decide +kernel
theorem d_M_goes_55 : decode b_M_goes 55 = .ok (.iconst 0, 1) := by decide +kernel
theorem d_M_goes_56 : decode b_M_goes 56 = .ok (.iconst 1, 1) := by decide +kernel
theorem d_M_goes_57 : decode b_M_goes 57 = .ok (.invokevirtual 81, 3) := by decide +kernel
theorem d_M_goes_60 : decode b_M_goes 60 = .ok (.aload_n 0, 1) := by decide +kernel
theorem d_M_goes_61 : decode b_M_goes 61 = .ok (.iconst 3, 1) := by decide +kernel
theorem d_M_goes_62 : decode b_M_goes 62 = .ok (.iconst 4, 1) := by decide +kernel
theorem d_M_goes_63 : decode b_M_goes 63 = .ok (.invokevirtual 81, 3) := by decide +kernel
theorem d_M_goes_66 : decode b_M_goes 66 = .ok (.aload_n 0, 1) := by decide +kernel
theorem d_M_goes_67 : decode b_M_goes 67 = .ok (.getfield 26, 3) := by decide +kernel
theorem d_M_goes_70 : decode b_M_goes 70 = .ok (.iconst 1, 1) := by decide +kernel
theorem d_M_goes_71 : decode b_M_goes 71 = .ok (.laload, 1) := by decide +kernel
theorem d_M_goes_72 : decode b_M_goes 72 = .ok (.aload_n 0, 1) := by decide +kernel
theorem d_M_goes_73 : decode b_M_goes 73 = .ok (.getfield 26, 3) := by decide +kernel
theorem d_M_goes_76 : decode b_M_goes 76 = .ok (.iconst 2, 1) := by decide +kernel
theorem d_M_goes_77 : decode b_M_goes 77 = .ok (.laload, 1) := by decide +kernel
theorem d_M_goes_78 : decode b_M_goes 78 = .ok (.lcmp, 1) := by decide +kernel
theorem d_M_goes_79 : decode b_M_goes 79 = .ok (.ifCond .gt 41, 3) := by decide +kernel
theorem d_M_goes_82 : decode b_M_goes 82 = .ok (.aload_n 0, 1) := by decide +kernel
theorem d_M_goes_83 : decode b_M_goes 83 = .ok (.getfield 26, 3) := by decide +kernel
theorem d_M_goes_86 : decode b_M_goes 86 = .ok (.iconst 1, 1) := by decide +kernel
theorem d_M_goes_87 : decode b_M_goes 87 = .ok (.laload, 1) := by decide +kernel
theorem d_M_goes_88 : decode b_M_goes 88 = .ok (.aload_n 0, 1) := by decide +kernel
theorem d_M_goes_89 : decode b_M_goes 89 = .ok (.getfield 26, 3) := by decide +kernel
theorem d_M_goes_92 : decode b_M_goes 92 = .ok (.iconst 2, 1) := by decide +kernel
theorem d_M_goes_93 : decode b_M_goes 93 = .ok (.laload, 1) := by decide +kernel
theorem d_M_goes_94 : decode b_M_goes 94 = .ok (.lcmp, 1) := by decide +kernel
theorem d_M_goes_95 : decode b_M_goes 95 = .ok (.ifCond .ne 39, 3) := by decide +kernel
theorem d_M_goes_98 : decode b_M_goes 98 = .ok (.aload_n 0, 1) := by decide +kernel
theorem d_M_goes_99 : decode b_M_goes 99 = .ok (.getfield 26, 3) := by decide +kernel
theorem d_M_goes_102 : decode b_M_goes 102 = .ok (.iconst 4, 1) := by decide +kernel
theorem d_M_goes_103 : decode b_M_goes 103 = .ok (.laload, 1) := by decide +kernel
theorem d_M_goes_104 : decode b_M_goes 104 = .ok (.invokestatic 77, 3) := by decide +kernel
theorem d_M_goes_107 : decode b_M_goes 107 = .ok (.aload_n 0, 1) := by decide +kernel
theorem d_M_goes_108 : decode b_M_goes 108 = .ok (.getfield 26, 3) := by decide +kernel
theorem d_M_goes_111 : decode b_M_goes 111 = .ok (.iconst 5, 1) := by decide +kernel
theorem d_M_goes_112 : decode b_M_goes 112 = .ok (.laload, 1) := by decide +kernel
theorem d_M_goes_113 : decode b_M_goes 113 = .ok (.invokestatic 77, 3) := by decide +kernel
theorem d_M_goes_116 : decode b_M_goes 116 = .ok (.lcmp, 1) := by decide +kernel
theorem d_M_goes_117 : decode b_M_goes 117 = .ok (.ifCond .le 17, 3) := by decide +kernel
theorem d_M_goes_120 : decode b_M_goes 120 = .ok (.aload_n 0, 1) := by decide +kernel
theorem d_M_goes_121 : decode b_M_goes 121 = .ok (.iconst 1, 1) := by decide +kernel
theorem d_M_goes_122 : decode b_M_goes 122 = .ok (.iconst 2, 1) := by decide +kernel
theorem d_M_goes_123 : decode b_M_goes 123 = .ok (.invokevirtual 81, 3) := by decide +kernel
theorem d_M_goes_126 : decode b_M_goes 126 = .ok (.aload_n 0, 1) := by decide +kernel
theorem d_M_goes_127 : decode b_M_goes 127 = .ok (.iconst 4, 1) := by decide +kernel
theorem d_M_goes_128 : decode b_M_goes 128 = .ok (.iconst 5, 1) := by decide +kernel
theorem d_M_goes_129 : decode b_M_goes 129 = .ok (.invokevirtual 81, 3) := by decide +kernel
theorem d_M_goes_132 : decode b_M_goes 132 = .ok (.iconst 1, 1) := by decide +kernel
theorem d_M_goes_133 : decode b_M_goes 133 = .ok (.ireturn, 1) := by decide +kernel
theorem d_M_goes_134 : decode b_M_goes 134 = .ok (.aload_n 0, 1) := by decide +kernel
theorem d_M_goes_135 : decode b_M_goes 135 = .ok (.getfield 26, 3) := by decide +kernel
theorem d_M_goes_138 : decode b_M_goes 138 = .ok (.iconst 3, 1) := by decide +kernel
theorem d_M_goes_139 : decode b_M_goes 139 = .ok (.laload, 1) := by decide +kernel
theorem d_M_goes_140 : decode b_M_goes 140 = .ok (.lconst 0, 1) := by decide +kernel
theorem d_M_goes_141 : decode b_M_goes 141 = .ok (.lcmp, 1) := by decide +kernel
theorem d_M_goes_142 : decode b_M_goes 142 = .ok (.ifCond .ge 7, 3) := by decide +kernel
theorem d_M_goes_145 : decode b_M_goes 145 = .ok (.iconst 1, 1) := by decide +kernel
theorem d_M_goes_146 : decode b_M_goes 146 = .ok (.goto 4, 3) := by decide +kernel
theorem d_M_goes_149 : decode b_M_goes 149 = .ok (.iconst 0, 1) := by decide +kernel
theorem d_M_goes_150 : decode b_M_goes 150 = .ok (.aload_n 0, 1) := by decide +kernel
theorem d_M_goes_151 : decode b_M_goes 151 = .ok (.getfield 26, 3) := by decide +kernel
theorem d_M_goes_154 : decode b_M_goes 154 = .ok (.iconst 4, 1) := by decide +kernel
theorem d_M_goes_155 : decode b_M_goes 155 = .ok (.laload, 1) := by decide +kernel
theorem d_M_goes_156 : decode b_M_goes 156 = .ok (.lconst 0, 1) := by decide +kernel
theorem d_M_goes_157 : decode b_M_goes 157 = .ok (.lcmp, 1) := by decide +kernel
theorem d_M_goes_158 : decode b_M_goes 158 = .ok (.ifCond .ge 7, 3) := by decide +kernel
theorem d_M_goes_161 : decode b_M_goes 161 = .ok (.iconst 1, 1) := by decide +kernel
theorem d_M_goes_162 : decode b_M_goes 162 = .ok (.goto 4, 3) := by decide +kernel
theorem d_M_goes_165 : decode b_M_goes 165 = .ok (.iconst 0, 1) := by decide +kernel
theorem d_M_goes_166 : decode b_M_goes 166 = .ok (.ixor, 1) := by decide +kernel
theorem d_M_goes_167 : decode b_M_goes 167 = .ok (.aload_n 0, 1) := by decide +kernel
theorem d_M_goes_168 : decode b_M_goes 168 = .ok (.getfield 26, 3) := by decide +kernel
theorem d_M_goes_171 : decode b_M_goes 171 = .ok (.iconst 5, 1) := by decide +kernel
theorem d_M_goes_172 : decode b_M_goes 172 = .ok (.laload, 1) := by decide +kernel
theorem d_M_goes_173 : decode b_M_goes 173 = .ok (.lconst 0, 1) := by decide +kernel
theorem d_M_goes_174 : decode b_M_goes 174 = .ok (.lcmp, 1) := by decide +kernel
theorem d_M_goes_175 : decode b_M_goes 175 = .ok (.ifCond .ge 7, 3) := by decide +kernel
theorem d_M_goes_178 : decode b_M_goes 178 = .ok (.iconst 1, 1) := by decide +kernel
theorem d_M_goes_179 : decode b_M_goes 179 = .ok (.goto 4, 3) := by decide +kernel
theorem d_M_goes_182 : decode b_M_goes 182 = .ok (.iconst 0, 1) := by decide +kernel
theorem d_M_goes_183 : decode b_M_goes 183 = .ok (.ixor, 1) := by decide +kernel
theorem d_M_goes_184 : decode b_M_goes 184 = .ok (.istore_n 1, 1) := by decide +kernel
theorem d_M_goes_185 : decode b_M_goes 185 = .ok (.iload_n 1, 1) := by decide +kernel
theorem d_M_goes_186 : decode b_M_goes 186 = .ok (.ifCond .ne 40, 3) := by decide +kernel
theorem d_M_goes_189 : decode b_M_goes 189 = .ok (.aload_n 0, 1) := by decide +kernel
theorem d_M_goes_190 : decode b_M_goes 190 = .ok (.getfield 26, 3) := by decide +kernel
theorem d_M_goes_193 : decode b_M_goes 193 = .ok (.iconst 3, 1) := by decide +kernel
theorem d_M_goes_194 : decode b_M_goes 194 = .ok (.laload, 1) := by decide +kernel
theorem d_M_goes_195 : decode b_M_goes 195 = .ok (.lconst 0, 1) := by decide +kernel
theorem d_M_goes_196 : decode b_M_goes 196 = .ok (.lcmp, 1) := by decide +kernel
theorem d_M_goes_197 : decode b_M_goes 197 = .ok (.ifCond .eq 29, 3) := by decide +kernel
theorem d_M_goes_200 : decode b_M_goes 200 = .ok (.aload_n 0, 1) := by decide +kernel
theorem d_M_goes_201 : decode b_M_goes 201 = .ok (.getfield 26, 3) := by decide +kernel
theorem d_M_goes_204 : decode b_M_goes 204 = .ok (.iconst 4, 1) := by decide +kernel
theorem d_M_goes_205 : decode b_M_goes 205 = .ok (.laload, 1) := by decide +kernel
theorem d_M_goes_206 : decode b_M_goes 206 = .ok (.lconst 0, 1) := by decide +kernel
theorem d_M_goes_207 : decode b_M_goes 207 = .ok (.lcmp, 1) := by decide +kernel
theorem d_M_goes_208 : decode b_M_goes 208 = .ok (.ifCond .eq 18, 3) := by decide +kernel
theorem d_M_goes_211 : decode b_M_goes 211 = .ok (.aload_n 0, 1) := by decide +kernel
theorem d_M_goes_212 : decode b_M_goes 212 = .ok (.getfield 26, 3) := by decide +kernel
theorem d_M_goes_215 : decode b_M_goes 215 = .ok (.iconst 5, 1) := by decide +kernel
theorem d_M_goes_216 : decode b_M_goes 216 = .ok (.laload, 1) := by decide +kernel
theorem d_M_goes_217 : decode b_M_goes 217 = .ok (.lconst 0, 1) := by decide +kernel
theorem d_M_goes_218 : decode b_M_goes 218 = .ok (.lcmp, 1) := by decide +kernel
theorem d_M_goes_219 : decode b_M_goes 219 = .ok (.ifCond .eq 7, 3) := by decide +kernel
theorem d_M_goes_222 : decode b_M_goes 222 = .ok (.iconst 1, 1) := by decide +kernel
theorem d_M_goes_223 : decode b_M_goes 223 = .ok (.goto 4, 3) := by decide +kernel
theorem d_M_goes_226 : decode b_M_goes 226 = .ok (.iconst 0, 1) := by decide +kernel
theorem d_M_goes_227 : decode b_M_goes 227 = .ok (.istore_n 2, 1) := by decide +kernel
theorem d_M_goes_228 : decode b_M_goes 228 = .ok (.iconst 3, 1) := by decide +kernel
theorem d_M_goes_229 : decode b_M_goes 229 = .ok (.istore_n 3, 1) := by decide +kernel
theorem d_M_goes_230 : decode b_M_goes 230 = .ok (.iload_n 3, 1) := by decide +kernel
theorem d_M_goes_231 : decode b_M_goes 231 = .ok (.bipush 6, 2) := by decide +kernel
theorem d_M_goes_233 : decode b_M_goes 233 = .ok (.if_icmp .ge 41, 3) := by decide +kernel
theorem d_M_goes_236 : decode b_M_goes 236 = .ok (.aload_n 0, 1) := by decide +kernel
theorem d_M_goes_237 : decode b_M_goes 237 = .ok (.getfield 26, 3) := by decide +kernel
theorem d_M_goes_240 : decode b_M_goes 240 = .ok (.iload_n 3, 1) := by decide +kernel
theorem d_M_goes_241 : decode b_M_goes 241 = .ok (.iload_n 2, 1) := by decide +kernel
theorem d_M_goes_242 : decode b_M_goes 242 = .ok (.ifCond .eq 15, 3) := by decide +kernel
theorem d_M_goes_245 : decode b_M_goes 245 = .ok (.aload_n 0, 1) := by decide +kernel
theorem d_M_goes_246 : decode b_M_goes 246 = .ok (.getfield 26, 3) := by decide +kernel
theorem d_M_goes_249 : decode b_M_goes 249 = .ok (.iload_n 3, 1) := by decide +kernel
theorem d_M_goes_250 : decode b_M_goes 250 = .ok (.laload, 1) := by decide +kernel
theorem d_M_goes_251 : decode b_M_goes 251 = .ok (.invokestatic 77, 3) := by decide +kernel
theorem d_M_goes_254 : decode b_M_goes 254 = .ok (.goto 13, 3) := by decide +kernel
theorem d_M_goes_257 : decode b_M_goes 257 = .ok (.aload_n 0, 1) := by decide +kernel
theorem d_M_goes_258 : decode b_M_goes 258 = .ok (.getfield 26, 3) := by decide +kernel
theorem d_M_goes_261 : decode b_M_goes 261 = .ok (.iload_n 3, 1) := by decide +kernel
theorem d_M_goes_262 : decode b_M_goes 262 = .ok (.laload, 1) := by decide +kernel
theorem d_M_goes_263 : decode b_M_goes 263 = .ok (.invokestatic 77, 3) := by decide +kernel
theorem d_M_goes_266 : decode b_M_goes 266 = .ok (.lneg, 1) := by decide +kernel
theorem d_M_goes_267 : decode b_M_goes 267 = .ok (.lastore, 1) := by decide +kernel
theorem d_M_goes_268 : decode b_M_goes 268 = .ok (.iinc 3 1, 3) := by decide +kernel
theorem d_M_goes_271 : decode b_M_goes 271 = .ok (.goto (-41), 3) := by decide +kernel
theorem d_M_goes_274 : decode b_M_goes 274 = .ok (.aload_n 0, 1) := by decide +kernel
theorem d_M_goes_275 : decode b_M_goes 275 = .ok (.getfield 26, 3) := by decide +kernel
theorem d_M_goes_278 : decode b_M_goes 278 = .ok (.iconst 0, 1) := by decide +kernel
theorem d_M_goes_279 : decode b_M_goes 279 = .ok (.laload, 1) := by decide +kernel
theorem d_M_goes_280 : decode b_M_goes 280 = .ok (.lstore_n 3, 1) := by decide +kernel
theorem d_M_goes_281 : decode b_M_goes 281 = .ok (.aload_n 0, 1) := by decide +kernel
theorem d_M_goes_282 : decode b_M_goes 282 = .ok (.getfield 26, 3) := by decide +kernel
theorem d_M_goes_285 : decode b_M_goes 285 = .ok (.iconst 1, 1) := by decide +kernel
theorem d_M_goes_286 : decode b_M_goes 286 = .ok (.laload, 1) := by decide +kernel
theorem d_M_goes_287 : decode b_M_goes 287 = .ok (.lstore 5, 2) := by decide +kernel
theorem d_M_goes_289 : decode b_M_goes 289 = .ok (.aload_n 0, 1) := by decide +kernel
theorem d_M_goes_290 : decode b_M_goes 290 = .ok (.getfield 26, 3) := by decide +kernel
theorem d_M_goes_293 : decode b_M_goes 293 = .ok (.iconst 2, 1) := by decide +kernel
theorem d_M_goes_294 : decode b_M_goes 294 = .ok (.laload, 1) := by decide +kernel
theorem d_M_goes_295 : decode b_M_goes 295 = .ok (.lstore 7, 2) := by decide +kernel
theorem d_M_goes_297 : decode b_M_goes 297 = .ok (.aload_n 0, 1) := by decide +kernel
theorem d_M_goes_298 : decode b_M_goes 298 = .ok (.getfield 26, 3) := by decide +kernel
theorem d_M_goes_301 : decode b_M_goes 301 = .ok (.iconst 3, 1) := by decide +kernel
theorem d_M_goes_302 : decode b_M_goes 302 = .ok (.laload, 1) := by decide +kernel
theorem d_M_goes_303 : decode b_M_goes 303 = .ok (.lstore 9, 2) := by decide +kernel
theorem d_M_goes_305 : decode b_M_goes 305 = .ok (.aload_n 0, 1) := by decide +kernel
theorem d_M_goes_306 : decode b_M_goes 306 = .ok (.getfield 26, 3) := by decide +kernel
theorem d_M_goes_309 : decode b_M_goes 309 = .ok (.iconst 4, 1) := by decide +kernel
theorem d_M_goes_310 : decode b_M_goes 310 = .ok (.laload, 1) := by decide +kernel
theorem d_M_goes_311 : decode b_M_goes 311 = .ok (.lstore 11, 2) := by decide +kernel
theorem d_M_goes_313 : decode b_M_goes 313 = .ok (.aload_n 0, 1) := by decide +kernel
theorem d_M_goes_314 : decode b_M_goes 314 = .ok (.getfield 26, 3) := by decide +kernel
theorem d_M_goes_317 : decode b_M_goes 317 = .ok (.iconst 5, 1) := by decide +kernel
theorem d_M_goes_318 : decode b_M_goes 318 = .ok (.laload, 1) := by decide +kernel
theorem d_M_goes_319 : decode b_M_goes 319 = .ok (.lstore 13, 2) := by decide +kernel
theorem d_M_goes_321 : decode b_M_goes 321 = .ok (.lload 9, 2) := by decide +kernel
theorem d_M_goes_323 : decode b_M_goes 323 = .ok (.invokestatic 77, 3) := by decide +kernel
theorem d_M_goes_326 : decode b_M_goes 326 = .ok (.lload 5, 2) := by decide +kernel
theorem d_M_goes_328 : decode b_M_goes 328 = .ok (.lcmp, 1) := by decide +kernel
theorem d_M_goes_329 : decode b_M_goes 329 = .ok (.ifCond .gt 39, 3) := by decide +kernel
theorem d_M_goes_332 : decode b_M_goes 332 = .ok (.lload 9, 2) := by decide +kernel
theorem d_M_goes_334 : decode b_M_goes 334 = .ok (.lload 5, 2) := by decide +kernel
theorem d_M_goes_336 : decode b_M_goes 336 = .ok (.lcmp, 1) := by decide +kernel
theorem d_M_goes_337 : decode b_M_goes 337 = .ok (.ifCond .ne 15, 3) := by decide +kernel
theorem d_M_goes_340 : decode b_M_goes 340 = .ok (.ldc2_w 71, 3) := by decide +kernel
theorem d_M_goes_343 : decode b_M_goes 343 = .ok (.lload 11, 2) := by decide +kernel
theorem d_M_goes_345 : decode b_M_goes 345 = .ok (.lmul, 1) := by decide +kernel
theorem d_M_goes_346 : decode b_M_goes 346 = .ok (.lload 13, 2) := by decide +kernel
theorem d_M_goes_348 : decode b_M_goes 348 = .ok (.lcmp, 1) := by decide +kernel
theorem d_M_goes_349 : decode b_M_goes 349 = .ok (.ifCond .lt 19, 3) := by decide +kernel
theorem d_M_goes_352 : decode b_M_goes 352 = .ok (.lload 9, 2) := by decide +kernel
theorem d_M_goes_354 : decode b_M_goes 354 = .ok (.lload 5, 2) := by decide +kernel
theorem d_M_goes_356 : decode b_M_goes 356 = .ok (.lneg, 1) := by decide +kernel
theorem d_M_goes_357 : decode b_M_goes 357 = .ok (.lcmp, 1) := by decide +kernel
theorem d_M_goes_358 : decode b_M_goes 358 = .ok (.ifCond .ne 87, 3) := by decide +kernel
theorem d_M_goes_361 : decode b_M_goes 361 = .ok (.lload 13, 2) := by decide +kernel
theorem d_M_goes_363 : decode b_M_goes 363 = .ok (.lconst 0, 1) := by decide +kernel
theorem d_M_goes_364 : decode b_M_goes 364 = .ok (.lcmp, 1) := by decide +kernel
theorem d_M_goes_365 : decode b_M_goes 365 = .ok (.ifCond .ge 80, 3) := by decide +kernel
theorem d_M_goes_368 : decode b_M_goes 368 = .ok (.lload 9, 2) := by decide +kernel
theorem d_M_goes_370 : decode b_M_goes 370 = .ok (.lconst 0, 1) := by decide +kernel
theorem d_M_goes_371 : decode b_M_goes 371 = .ok (.lcmp, 1) := by decide +kernel
theorem d_M_goes_372 : decode b_M_goes 372 = .ok (.ifCond .ge 9, 3) := by decide +kernel
theorem d_M_goes_375 : decode b_M_goes 375 = .ok (.ldc2_w 85, 3) := by decide +kernel
theorem d_M_goes_378 : decode b_M_goes 378 = .ok (.goto 4, 3) := by decide +kernel
theorem d_M_goes_381 : decode b_M_goes 381 = .ok (.lconst 1, 1) := by decide +kernel
theorem d_M_goes_382 : decode b_M_goes 382 = .ok (.lstore 15, 2) := by decide +kernel
theorem d_M_goes_384 : decode b_M_goes 384 = .ok (.aload_n 0, 1) := by decide +kernel
theorem d_M_goes_385 : decode b_M_goes 385 = .ok (.getfield 26, 3) := by decide +kernel
theorem d_M_goes_388 : decode b_M_goes 388 = .ok (.iconst 2, 1) := by decide +kernel
theorem d_M_goes_389 : decode b_M_goes 389 = .ok (.lload 5, 2) := by decide +kernel
theorem d_M_goes_391 : decode b_M_goes 391 = .ok (.lload 7, 2) := by decide +kernel
theorem d_M_goes_393 : decode b_M_goes 393 = .ok (.ladd, 1) := by decide +kernel
theorem d_M_goes_394 : decode b_M_goes 394 = .ok (.lload 15, 2) := by decide +kernel
theorem d_M_goes_396 : decode b_M_goes 396 = .ok (.lload 9, 2) := by decide +kernel
theorem d_M_goes_398 : decode b_M_goes 398 = .ok (.lmul, 1) := by decide +kernel
theorem d_M_goes_399 : decode b_M_goes 399 = .ok (.lsub, 1) := by decide +kernel
theorem d_M_goes_400 : decode b_M_goes 400 = .ok (.lastore, 1) := by decide +kernel
theorem d_M_goes_401 : decode b_M_goes 401 = .ok (.aload_n 0, 1) := by decide +kernel
theorem d_M_goes_402 : decode b_M_goes 402 = .ok (.getfield 26, 3) := by decide +kernel
theorem d_M_goes_405 : decode b_M_goes 405 = .ok (.iconst 4, 1) := by decide +kernel
theorem d_M_goes_406 : decode b_M_goes 406 = .ok (.lload 11, 2) := by decide +kernel
theorem d_M_goes_408 : decode b_M_goes 408 = .ok (.lload 15, 2) := by decide +kernel
theorem d_M_goes_410 : decode b_M_goes 410 = .ok (.lload 13, 2) := by decide +kernel
theorem d_M_goes_412 : decode b_M_goes 412 = .ok (.lmul, 1) := by decide +kernel
theorem d_M_goes_413 : decode b_M_goes 413 = .ok (.lsub, 1) := by decide +kernel
theorem d_M_goes_414 : decode b_M_goes 414 = .ok (.lastore, 1) := by decide +kernel
theorem d_M_goes_415 : decode b_M_goes 415 = .ok (.aload_n 0, 1) := by decide +kernel
theorem d_M_goes_416 : decode b_M_goes 416 = .ok (.getfield 26, 3) := by decide +kernel
theorem d_M_goes_419 : decode b_M_goes 419 = .ok (.iconst 3, 1) := by decide +kernel
theorem d_M_goes_420 : decode b_M_goes 420 = .ok (.lload 9, 2) := by decide +kernel
theorem d_M_goes_422 : decode b_M_goes 422 = .ok (.ldc2_w 71, 3) := by decide +kernel
theorem d_M_goes_425 : decode b_M_goes 425 = .ok (.lload 15, 2) := by decide +kernel
theorem d_M_goes_427 : decode b_M_goes 427 = .ok (.lmul, 1) := by decide +kernel
theorem d_M_goes_428 : decode b_M_goes 428 = .ok (.lload 5, 2) := by decide +kernel
theorem d_M_goes_430 : decode b_M_goes 430 = .ok (.lmul, 1) := by decide +kernel
theorem d_M_goes_431 : decode b_M_goes 431 = .ok (.lsub, 1) := by decide +kernel
theorem d_M_goes_432 : decode b_M_goes 432 = .ok (.lastore, 1) := by decide +kernel
theorem d_M_goes_433 : decode b_M_goes 433 = .ok (.aload_n 0, 1) := by decide +kernel
theorem d_M_goes_434 : decode b_M_goes 434 = .ok (.dup, 1) := by decide +kernel
theorem d_M_goes_435 : decode b_M_goes 435 = .ok (.getfield 57, 3) := by decide +kernel
theorem d_M_goes_438 : decode b_M_goes 438 = .ok (.iconst 1, 1) := by decide +kernel
theorem d_M_goes_439 : decode b_M_goes 439 = .ok (.iadd, 1) := by decide +kernel
theorem d_M_goes_440 : decode b_M_goes 440 = .ok (.putfield 57, 3) := by decide +kernel
theorem d_M_goes_443 : decode b_M_goes 443 = .ok (.iconst 1, 1) := by decide +kernel
theorem d_M_goes_444 : decode b_M_goes 444 = .ok (.ireturn, 1) := by decide +kernel
theorem d_M_goes_445 : decode b_M_goes 445 = .ok (.lload 11, 2) := by decide +kernel
theorem d_M_goes_447 : decode b_M_goes 447 = .ok (.invokestatic 77, 3) := by decide +kernel
theorem d_M_goes_450 : decode b_M_goes 450 = .ok (.lload_n 3, 1) := by decide +kernel
theorem d_M_goes_451 : decode b_M_goes 451 = .ok (.lcmp, 1) := by decide +kernel
theorem d_M_goes_452 : decode b_M_goes 452 = .ok (.ifCond .gt 37, 3) := by decide +kernel
theorem d_M_goes_455 : decode b_M_goes 455 = .ok (.lload 11, 2) := by decide +kernel
theorem d_M_goes_457 : decode b_M_goes 457 = .ok (.lload_n 3, 1) := by decide +kernel
theorem d_M_goes_458 : decode b_M_goes 458 = .ok (.lcmp, 1) := by decide +kernel
theorem d_M_goes_459 : decode b_M_goes 459 = .ok (.ifCond .ne 15, 3) := by decide +kernel
theorem d_M_goes_462 : decode b_M_goes 462 = .ok (.ldc2_w 71, 3) := by decide +kernel
theorem d_M_goes_465 : decode b_M_goes 465 = .ok (.lload 9, 2) := by decide +kernel
theorem d_M_goes_467 : decode b_M_goes 467 = .ok (.lmul, 1) := by decide +kernel
theorem d_M_goes_468 : decode b_M_goes 468 = .ok (.lload 13, 2) := by decide +kernel
theorem d_M_goes_470 : decode b_M_goes 470 = .ok (.lcmp, 1) := by decide +kernel
theorem d_M_goes_471 : decode b_M_goes 471 = .ok (.ifCond .lt 18, 3) := by decide +kernel
theorem d_M_goes_474 : decode b_M_goes 474 = .ok (.lload 11, 2) := by decide +kernel
theorem d_M_goes_476 : decode b_M_goes 476 = .ok (.lload_n 3, 1) := by decide +kernel
theorem d_M_goes_477 : decode b_M_goes 477 = .ok (.lneg, 1) := by decide +kernel
theorem d_M_goes_478 : decode b_M_goes 478 = .ok (.lcmp, 1) := by decide +kernel
theorem d_M_goes_479 : decode b_M_goes 479 = .ok (.ifCond .ne 85, 3) := by decide +kernel
theorem d_M_goes_482 : decode b_M_goes 482 = .ok (.lload 13, 2) := by decide +kernel
theorem d_M_goes_484 : decode b_M_goes 484 = .ok (.lconst 0, 1) := by decide +kernel
theorem d_M_goes_485 : decode b_M_goes 485 = .ok (.lcmp, 1) := by decide +kernel
theorem d_M_goes_486 : decode b_M_goes 486 = .ok (.ifCond .ge 78, 3) := by decide +kernel
theorem d_M_goes_489 : decode b_M_goes 489 = .ok (.lload 11, 2) := by decide +kernel
theorem d_M_goes_491 : decode b_M_goes 491 = .ok (.lconst 0, 1) := by decide +kernel
theorem d_M_goes_492 : decode b_M_goes 492 = .ok (.lcmp, 1) := by decide +kernel
theorem d_M_goes_493 : decode b_M_goes 493 = .ok (.ifCond .ge 9, 3) := by decide +kernel
theorem d_M_goes_496 : decode b_M_goes 496 = .ok (.ldc2_w 85, 3) := by decide +kernel
theorem d_M_goes_499 : decode b_M_goes 499 = .ok (.goto 4, 3) := by decide +kernel
theorem d_M_goes_502 : decode b_M_goes 502 = .ok (.lconst 1, 1) := by decide +kernel
theorem d_M_goes_503 : decode b_M_goes 503 = .ok (.lstore 15, 2) := by decide +kernel
theorem d_M_goes_505 : decode b_M_goes 505 = .ok (.aload_n 0, 1) := by decide +kernel
theorem d_M_goes_506 : decode b_M_goes 506 = .ok (.getfield 26, 3) := by decide +kernel
theorem d_M_goes_509 : decode b_M_goes 509 = .ok (.iconst 2, 1) := by decide +kernel
theorem d_M_goes_510 : decode b_M_goes 510 = .ok (.lload_n 3, 1) := by decide +kernel
theorem d_M_goes_511 : decode b_M_goes 511 = .ok (.lload 7, 2) := by decide +kernel
theorem d_M_goes_513 : decode b_M_goes 513 = .ok (.ladd, 1) := by decide +kernel
theorem d_M_goes_514 : decode b_M_goes 514 = .ok (.lload 15, 2) := by decide +kernel
theorem d_M_goes_516 : decode b_M_goes 516 = .ok (.lload 11, 2) := by decide +kernel
theorem d_M_goes_518 : decode b_M_goes 518 = .ok (.lmul, 1) := by decide +kernel
theorem d_M_goes_519 : decode b_M_goes 519 = .ok (.lsub, 1) := by decide +kernel
theorem d_M_goes_520 : decode b_M_goes 520 = .ok (.lastore, 1) := by decide +kernel
theorem d_M_goes_521 : decode b_M_goes 521 = .ok (.aload_n 0, 1) := by decide +kernel
theorem d_M_goes_522 : decode b_M_goes 522 = .ok (.getfield 26, 3) := by decide +kernel
theorem d_M_goes_525 : decode b_M_goes 525 = .ok (.iconst 3, 1) := by decide +kernel
theorem d_M_goes_526 : decode b_M_goes 526 = .ok (.lload 9, 2) := by decide +kernel
theorem d_M_goes_528 : decode b_M_goes 528 = .ok (.lload 15, 2) := by decide +kernel
theorem d_M_goes_530 : decode b_M_goes 530 = .ok (.lload 13, 2) := by decide +kernel
theorem d_M_goes_532 : decode b_M_goes 532 = .ok (.lmul, 1) := by decide +kernel
theorem d_M_goes_533 : decode b_M_goes 533 = .ok (.lsub, 1) := by decide +kernel
theorem d_M_goes_534 : decode b_M_goes 534 = .ok (.lastore, 1) := by decide +kernel
theorem d_M_goes_535 : decode b_M_goes 535 = .ok (.aload_n 0, 1) := by decide +kernel
theorem d_M_goes_536 : decode b_M_goes 536 = .ok (.getfield 26, 3) := by decide +kernel
theorem d_M_goes_539 : decode b_M_goes 539 = .ok (.iconst 4, 1) := by decide +kernel
theorem d_M_goes_540 : decode b_M_goes 540 = .ok (.lload 11, 2) := by decide +kernel
theorem d_M_goes_542 : decode b_M_goes 542 = .ok (.ldc2_w 71, 3) := by decide +kernel
theorem d_M_goes_545 : decode b_M_goes 545 = .ok (.lload 15, 2) := by decide +kernel
theorem d_M_goes_547 : decode b_M_goes 547 = .ok (.lmul, 1) := by decide +kernel
theorem d_M_goes_548 : decode b_M_goes 548 = .ok (.lload_n 3, 1) := by decide +kernel
theorem d_M_goes_549 : decode b_M_goes 549 = .ok (.lmul, 1) := by decide +kernel
theorem d_M_goes_550 : decode b_M_goes 550 = .ok (.lsub, 1) := by decide +kernel
theorem d_M_goes_551 : decode b_M_goes 551 = .ok (.lastore, 1) := by decide +kernel
theorem d_M_goes_552 : decode b_M_goes 552 = .ok (.aload_n 0, 1) := by decide +kernel
theorem d_M_goes_553 : decode b_M_goes 553 = .ok (.dup, 1) := by decide +kernel
theorem d_M_goes_554 : decode b_M_goes 554 = .ok (.getfield 57, 3) := by decide +kernel
theorem d_M_goes_557 : decode b_M_goes 557 = .ok (.iconst 1, 1) := by decide +kernel
theorem d_M_goes_558 : decode b_M_goes 558 = .ok (.iadd, 1) := by decide +kernel
theorem d_M_goes_559 : decode b_M_goes 559 = .ok (.putfield 57, 3) := by decide +kernel
theorem d_M_goes_562 : decode b_M_goes 562 = .ok (.iconst 1, 1) := by decide +kernel
theorem d_M_goes_563 : decode b_M_goes 563 = .ok (.ireturn, 1) := by decide +kernel
theorem d_M_goes_564 : decode b_M_goes 564 = .ok (.lload 13, 2) := by decide +kernel
theorem d_M_goes_566 : decode b_M_goes 566 = .ok (.invokestatic 77, 3) := by decide +kernel
theorem d_M_goes_569 : decode b_M_goes 569 = .ok (.lload_n 3, 1) := by decide +kernel
theorem d_M_goes_570 : decode b_M_goes 570 = .ok (.lcmp, 1) := by decide +kernel
theorem d_M_goes_571 : decode b_M_goes 571 = .ok (.ifCond .gt 37, 3) := by decide +kernel
theorem d_M_goes_574 : decode b_M_goes 574 = .ok (.lload 13, 2) := by decide +kernel
theorem d_M_goes_576 : decode b_M_goes 576 = .ok (.lload_n 3, 1) := by decide +kernel
theorem d_M_goes_577 : decode b_M_goes 577 = .ok (.lcmp, 1) := by decide +kernel
theorem d_M_goes_578 : decode b_M_goes 578 = .ok (.ifCond .ne 15, 3) := by decide +kernel
theorem d_M_goes_581 : decode b_M_goes 581 = .ok (.ldc2_w 71, 3) := by decide +kernel
theorem d_M_goes_584 : decode b_M_goes 584 = .ok (.lload 9, 2) := by decide +kernel
theorem d_M_goes_586 : decode b_M_goes 586 = .ok (.lmul, 1) := by decide +kernel
theorem d_M_goes_587 : decode b_M_goes 587 = .ok (.lload 11, 2) := by decide +kernel
theorem d_M_goes_589 : decode b_M_goes 589 = .ok (.lcmp, 1) := by decide +kernel
theorem d_M_goes_590 : decode b_M_goes 590 = .ok (.ifCond .lt 18, 3) := by decide +kernel
theorem d_M_goes_593 : decode b_M_goes 593 = .ok (.lload 13, 2) := by decide +kernel
theorem d_M_goes_595 : decode b_M_goes 595 = .ok (.lload_n 3, 1) := by decide +kernel
theorem d_M_goes_596 : decode b_M_goes 596 = .ok (.lneg, 1) := by decide +kernel
theorem d_M_goes_597 : decode b_M_goes 597 = .ok (.lcmp, 1) := by decide +kernel
theorem d_M_goes_598 : decode b_M_goes 598 = .ok (.ifCond .ne 85, 3) := by decide +kernel
theorem d_M_goes_601 : decode b_M_goes 601 = .ok (.lload 11, 2) := by decide +kernel
theorem d_M_goes_603 : decode b_M_goes 603 = .ok (.lconst 0, 1) := by decide +kernel
theorem d_M_goes_604 : decode b_M_goes 604 = .ok (.lcmp, 1) := by decide +kernel
theorem d_M_goes_605 : decode b_M_goes 605 = .ok (.ifCond .ge 78, 3) := by decide +kernel
theorem d_M_goes_608 : decode b_M_goes 608 = .ok (.lload 13, 2) := by decide +kernel
theorem d_M_goes_610 : decode b_M_goes 610 = .ok (.lconst 0, 1) := by decide +kernel
theorem d_M_goes_611 : decode b_M_goes 611 = .ok (.lcmp, 1) := by decide +kernel
theorem d_M_goes_612 : decode b_M_goes 612 = .ok (.ifCond .ge 9, 3) := by decide +kernel
theorem d_M_goes_615 : decode b_M_goes 615 = .ok (.ldc2_w 85, 3) := by decide +kernel
theorem d_M_goes_618 : decode b_M_goes 618 = .ok (.goto 4, 3) := by decide +kernel
theorem d_M_goes_621 : decode b_M_goes 621 = .ok (.lconst 1, 1) := by decide +kernel
theorem d_M_goes_622 : decode b_M_goes 622 = .ok (.lstore 15, 2) := by decide +kernel
theorem d_M_goes_624 : decode b_M_goes 624 = .ok (.aload_n 0, 1) := by decide +kernel
theorem d_M_goes_625 : decode b_M_goes 625 = .ok (.getfield 26, 3) := by decide +kernel
theorem d_M_goes_628 : decode b_M_goes 628 = .ok (.iconst 1, 1) := by decide +kernel
theorem d_M_goes_629 : decode b_M_goes 629 = .ok (.lload_n 3, 1) := by decide +kernel
theorem d_M_goes_630 : decode b_M_goes 630 = .ok (.lload 5, 2) := by decide +kernel
theorem d_M_goes_632 : decode b_M_goes 632 = .ok (.ladd, 1) := by decide +kernel
theorem d_M_goes_633 : decode b_M_goes 633 = .ok (.lload 15, 2) := by decide +kernel
theorem d_M_goes_635 : decode b_M_goes 635 = .ok (.lload 13, 2) := by decide +kernel
theorem d_M_goes_637 : decode b_M_goes 637 = .ok (.lmul, 1) := by decide +kernel
theorem d_M_goes_638 : decode b_M_goes 638 = .ok (.lsub, 1) := by decide +kernel
theorem d_M_goes_639 : decode b_M_goes 639 = .ok (.lastore, 1) := by decide +kernel
theorem d_M_goes_640 : decode b_M_goes 640 = .ok (.aload_n 0, 1) := by decide +kernel
theorem d_M_goes_641 : decode b_M_goes 641 = .ok (.getfield 26, 3) := by decide +kernel
theorem d_M_goes_644 : decode b_M_goes 644 = .ok (.iconst 3, 1) := by decide +kernel
theorem d_M_goes_645 : decode b_M_goes 645 = .ok (.lload 9, 2) := by decide +kernel
theorem d_M_goes_647 : decode b_M_goes 647 = .ok (.lload 15, 2) := by decide +kernel
theorem d_M_goes_649 : decode b_M_goes 649 = .ok (.lload 11, 2) := by decide +kernel
theorem d_M_goes_651 : decode b_M_goes 651 = .ok (.lmul, 1) := by decide +kernel
theorem d_M_goes_652 : decode b_M_goes 652 = .ok (.lsub, 1) := by decide +kernel
theorem d_M_goes_653 : decode b_M_goes 653 = .ok (.lastore, 1) := by decide +kernel
theorem d_M_goes_654 : decode b_M_goes 654 = .ok (.aload_n 0, 1) := by decide +kernel
theorem d_M_goes_655 : decode b_M_goes 655 = .ok (.getfield 26, 3) := by decide +kernel
theorem d_M_goes_658 : decode b_M_goes 658 = .ok (.iconst 5, 1) := by decide +kernel
theorem d_M_goes_659 : decode b_M_goes 659 = .ok (.lload 13, 2) := by decide +kernel
theorem d_M_goes_661 : decode b_M_goes 661 = .ok (.ldc2_w 71, 3) := by decide +kernel
theorem d_M_goes_664 : decode b_M_goes 664 = .ok (.lload 15, 2) := by decide +kernel
theorem d_M_goes_666 : decode b_M_goes 666 = .ok (.lmul, 1) := by decide +kernel
theorem d_M_goes_667 : decode b_M_goes 667 = .ok (.lload_n 3, 1) := by decide +kernel
theorem d_M_goes_668 : decode b_M_goes 668 = .ok (.lmul, 1) := by decide +kernel
theorem d_M_goes_669 : decode b_M_goes 669 = .ok (.lsub, 1) := by decide +kernel
theorem d_M_goes_670 : decode b_M_goes 670 = .ok (.lastore, 1) := by decide +kernel
theorem d_M_goes_671 : decode b_M_goes 671 = .ok (.aload_n 0, 1) := by decide +kernel
theorem d_M_goes_672 : decode b_M_goes 672 = .ok (.dup, 1) := by decide +kernel
theorem d_M_goes_673 : decode b_M_goes 673 = .ok (.getfield 57, 3) := by decide +kernel
theorem d_M_goes_676 : decode b_M_goes 676 = .ok (.iconst 1, 1) := by decide +kernel
theorem d_M_goes_677 : decode b_M_goes 677 = .ok (.iadd, 1) := by decide +kernel
theorem d_M_goes_678 : decode b_M_goes 678 = .ok (.putfield 57, 3) := by decide +kernel
theorem d_M_goes_681 : decode b_M_goes 681 = .ok (.iconst 1, 1) := by decide +kernel
theorem d_M_goes_682 : decode b_M_goes 682 = .ok (.ireturn, 1) := by decide +kernel
theorem d_M_goes_683 : decode b_M_goes 683 = .ok (.lload 9, 2) := by decide +kernel
theorem d_M_goes_685 : decode b_M_goes 685 = .ok (.lload 11, 2) := by decide +kernel
theorem d_M_goes_687 : decode b_M_goes 687 = .ok (.ladd, 1) := by decide +kernel
theorem d_M_goes_688 : decode b_M_goes 688 = .ok (.lload 13, 2) := by decide +kernel
theorem d_M_goes_690 : decode b_M_goes 690 = .ok (.ladd, 1) := by decide +kernel
theorem d_M_goes_691 : decode b_M_goes 691 = .ok (.lload_n 3, 1) := by decide +kernel
theorem d_M_goes_692 : decode b_M_goes 692 = .ok (.ladd, 1) := by decide +kernel
theorem d_M_goes_693 : decode b_M_goes 693 = .ok (.lload 5, 2) := by decide +kernel
theorem d_M_goes_695 : decode b_M_goes 695 = .ok (.ladd, 1) := by decide +kernel
theorem d_M_goes_696 : decode b_M_goes 696 = .ok (.lstore 15, 2) := by decide +kernel
theorem d_M_goes_698 : decode b_M_goes 698 = .ok (.lload 15, 2) := by decide +kernel
theorem d_M_goes_700 : decode b_M_goes 700 = .ok (.lconst 0, 1) := by decide +kernel
theorem d_M_goes_701 : decode b_M_goes 701 = .ok (.lcmp, 1) := by decide +kernel
theorem d_M_goes_702 : decode b_M_goes 702 = .ok (.ifCond .lt 26, 3) := by decide +kernel
theorem d_M_goes_705 : decode b_M_goes 705 = .ok (.lload 15, 2) := by decide +kernel
theorem d_M_goes_707 : decode b_M_goes 707 = .ok (.lconst 0, 1) := by decide +kernel
theorem d_M_goes_708 : decode b_M_goes 708 = .ok (.lcmp, 1) := by decide +kernel
theorem d_M_goes_709 : decode b_M_goes 709 = .ok (.ifCond .ne 77, 3) := by decide +kernel
theorem d_M_goes_712 : decode b_M_goes 712 = .ok (.ldc2_w 71, 3) := by decide +kernel
theorem d_M_goes_715 : decode b_M_goes 715 = .ok (.lload_n 3, 1) := by decide +kernel
theorem d_M_goes_716 : decode b_M_goes 716 = .ok (.lload 11, 2) := by decide +kernel
theorem d_M_goes_718 : decode b_M_goes 718 = .ok (.ladd, 1) := by decide +kernel
theorem d_M_goes_719 : decode b_M_goes 719 = .ok (.lmul, 1) := by decide +kernel
theorem d_M_goes_720 : decode b_M_goes 720 = .ok (.lload 13, 2) := by decide +kernel
theorem d_M_goes_722 : decode b_M_goes 722 = .ok (.ladd, 1) := by decide +kernel
theorem d_M_goes_723 : decode b_M_goes 723 = .ok (.lconst 0, 1) := by decide +kernel
theorem d_M_goes_724 : decode b_M_goes 724 = .ok (.lcmp, 1) := by decide +kernel
theorem d_M_goes_725 : decode b_M_goes 725 = .ok (.ifCond .le 61, 3) := by decide +kernel
theorem d_M_goes_728 : decode b_M_goes 728 = .ok (.aload_n 0, 1) := by decide +kernel
theorem d_M_goes_729 : decode b_M_goes 729 = .ok (.getfield 26, 3) := by decide +kernel
theorem d_M_goes_732 : decode b_M_goes 732 = .ok (.iconst 2, 1) := by decide +kernel
theorem d_M_goes_733 : decode b_M_goes 733 = .ok (.lload 7, 2) := by decide +kernel
theorem d_M_goes_735 : decode b_M_goes 735 = .ok (.lload 15, 2) := by decide +kernel
theorem d_M_goes_737 : decode b_M_goes 737 = .ok (.ladd, 1) := by decide +kernel
theorem d_M_goes_738 : decode b_M_goes 738 = .ok (.lastore, 1) := by decide +kernel
theorem d_M_goes_739 : decode b_M_goes 739 = .ok (.aload_n 0, 1) := by decide +kernel
theorem d_M_goes_740 : decode b_M_goes 740 = .ok (.getfield 26, 3) := by decide +kernel
theorem d_M_goes_743 : decode b_M_goes 743 = .ok (.iconst 3, 1) := by decide +kernel
theorem d_M_goes_744 : decode b_M_goes 744 = .ok (.ldc2_w 71, 3) := by decide +kernel
theorem d_M_goes_747 : decode b_M_goes 747 = .ok (.lload 5, 2) := by decide +kernel
theorem d_M_goes_749 : decode b_M_goes 749 = .ok (.lmul, 1) := by decide +kernel
theorem d_M_goes_750 : decode b_M_goes 750 = .ok (.lload 9, 2) := by decide +kernel
theorem d_M_goes_752 : decode b_M_goes 752 = .ok (.ladd, 1) := by decide +kernel
theorem d_M_goes_753 : decode b_M_goes 753 = .ok (.lload 13, 2) := by decide +kernel
theorem d_M_goes_755 : decode b_M_goes 755 = .ok (.ladd, 1) := by decide +kernel
theorem d_M_goes_756 : decode b_M_goes 756 = .ok (.lastore, 1) := by decide +kernel
theorem d_M_goes_757 : decode b_M_goes 757 = .ok (.aload_n 0, 1) := by decide +kernel
theorem d_M_goes_758 : decode b_M_goes 758 = .ok (.getfield 26, 3) := by decide +kernel
theorem d_M_goes_761 : decode b_M_goes 761 = .ok (.iconst 4, 1) := by decide +kernel
theorem d_M_goes_762 : decode b_M_goes 762 = .ok (.ldc2_w 71, 3) := by decide +kernel
theorem d_M_goes_765 : decode b_M_goes 765 = .ok (.lload_n 3, 1) := by decide +kernel
theorem d_M_goes_766 : decode b_M_goes 766 = .ok (.lmul, 1) := by decide +kernel
theorem d_M_goes_767 : decode b_M_goes 767 = .ok (.lload 11, 2) := by decide +kernel
theorem d_M_goes_769 : decode b_M_goes 769 = .ok (.ladd, 1) := by decide +kernel
theorem d_M_goes_770 : decode b_M_goes 770 = .ok (.lload 13, 2) := by decide +kernel
theorem d_M_goes_772 : decode b_M_goes 772 = .ok (.ladd, 1) := by decide +kernel
theorem d_M_goes_773 : decode b_M_goes 773 = .ok (.lastore, 1) := by decide +kernel
theorem d_M_goes_774 : decode b_M_goes 774 = .ok (.aload_n 0, 1) := by decide +kernel
theorem d_M_goes_775 : decode b_M_goes 775 = .ok (.dup, 1) := by decide +kernel
theorem d_M_goes_776 : decode b_M_goes 776 = .ok (.getfield 57, 3) := by decide +kernel
theorem d_M_goes_779 : decode b_M_goes 779 = .ok (.iconst 1, 1) := by decide +kernel
theorem d_M_goes_780 : decode b_M_goes 780 = .ok (.iadd, 1) := by decide +kernel
theorem d_M_goes_781 : decode b_M_goes 781 = .ok (.putfield 57, 3) := by decide +kernel
theorem d_M_goes_784 : decode b_M_goes 784 = .ok (.iconst 1, 1) := by decide +kernel
theorem d_M_goes_785 : decode b_M_goes 785 = .ok (.ireturn, 1) := by decide +kernel
theorem d_M_goes_786 : decode b_M_goes 786 = .ok (.iconst 0, 1) := by decide +kernel
theorem d_M_goes_787 : decode b_M_goes 787 = .ok (.ireturn, 1) := by decide +kernel
theorem d_M_reduce_0 : decode b_M_reduce 0 = .ok (.iconst 3, 1) := by decide +kernel
theorem d_M_reduce_1 : decode b_M_reduce 1 = .ok (.istore_n 1, 1) := by decide +kernel
theorem d_M_reduce_2 : decode b_M_reduce 2 = .ok (.iload_n 1, 1) := by decide +kernel
theorem d_M_reduce_3 : decode b_M_reduce 3 = .ok (.bipush 6, 2) := by decide +kernel
theorem d_M_reduce_5 : decode b_M_reduce 5 = .ok (.if_icmp .ge 25, 3) := by decide +kernel
theorem d_M_reduce_8 : decode b_M_reduce 8 = .ok (.aload_n 0, 1) := by decide +kernel
theorem d_M_reduce_9 : decode b_M_reduce 9 = .ok (.getfield 26, 3) := by decide +kernel
theorem d_M_reduce_12 : decode b_M_reduce 12 = .ok (.iload_n 1, 1) := by decide +kernel
theorem d_M_reduce_13 : decode b_M_reduce 13 = .ok (.ldc2_w 71, 3) := by decide +kernel
theorem d_M_reduce_16 : decode b_M_reduce 16 = .ok (.aload_n 0, 1) := by decide +kernel
theorem d_M_reduce_17 : decode b_M_reduce 17 = .ok (.getfield 26, 3) := by decide +kernel
theorem d_M_reduce_20 : decode b_M_reduce 20 = .ok (.iload_n 1, 1) := by decide +kernel
theorem d_M_reduce_21 : decode b_M_reduce 21 = .ok (.laload, 1) := by decide +kernel
theorem d_M_reduce_22 : decode b_M_reduce 22 = .ok (.lmul, 1) := by decide +kernel
theorem d_M_reduce_23 : decode b_M_reduce 23 = .ok (.lastore, 1) := by decide +kernel
theorem d_M_reduce_24 : decode b_M_reduce 24 = .ok (.iinc 1 1, 3) := by decide +kernel
theorem d_M_reduce_27 : decode b_M_reduce 27 = .ok (.goto (-25), 3) := by decide +kernel
theorem d_M_reduce_30 : decode b_M_reduce 30 = .ok (.iconst 1, 1) := by decide +kernel
theorem d_M_reduce_31 : decode b_M_reduce 31 = .ok (.istore_n 1, 1) := by decide +kernel
theorem d_M_reduce_32 : decode b_M_reduce 32 = .ok (.iload_n 1, 1) := by decide +kernel
theorem d_M_reduce_33 : decode b_M_reduce 33 = .ok (.ifCond .eq 11, 3) := by decide +kernel
theorem d_M_reduce_36 : decode b_M_reduce 36 = .ok (.aload_n 0, 1) := by decide +kernel
theorem d_M_reduce_37 : decode b_M_reduce 37 = .ok (.invokevirtual 73, 3) := by decide +kernel
theorem d_M_reduce_40 : decode b_M_reduce 40 = .ok (.istore_n 1, 1) := by decide +kernel
theorem d_M_reduce_41 : decode b_M_reduce 41 = .ok (.goto (-9), 3) := by decide +kernel
theorem d_M_reduce_44 : decode b_M_reduce 44 = .ok (.iconst 3, 1) := by decide +kernel
theorem d_M_reduce_45 : decode b_M_reduce 45 = .ok (.istore_n 2, 1) := by decide +kernel
theorem d_M_reduce_46 : decode b_M_reduce 46 = .ok (.iload_n 2, 1) := by decide +kernel
theorem d_M_reduce_47 : decode b_M_reduce 47 = .ok (.bipush 6, 2) := by decide +kernel
theorem d_M_reduce_49 : decode b_M_reduce 49 = .ok (.if_icmp .ge 25, 3) := by decide +kernel
theorem d_M_reduce_52 : decode b_M_reduce 52 = .ok (.aload_n 0, 1) := by decide +kernel
theorem d_M_reduce_53 : decode b_M_reduce 53 = .ok (.getfield 26, 3) := by decide +kernel
theorem d_M_reduce_56 : decode b_M_reduce 56 = .ok (.iload_n 2, 1) := by decide +kernel
theorem d_M_reduce_57 : decode b_M_reduce 57 = .ok (.aload_n 0, 1) := by decide +kernel
theorem d_M_reduce_58 : decode b_M_reduce 58 = .ok (.getfield 26, 3) := by decide +kernel
theorem d_M_reduce_61 : decode b_M_reduce 61 = .ok (.iload_n 2, 1) := by decide +kernel
theorem d_M_reduce_62 : decode b_M_reduce 62 = .ok (.laload, 1) := by decide +kernel
theorem d_M_reduce_63 : decode b_M_reduce 63 = .ok (.ldc2_w 71, 3) := by decide +kernel
theorem d_M_reduce_66 : decode b_M_reduce 66 = .ok (.ldiv, 1) := by decide +kernel
theorem d_M_reduce_67 : decode b_M_reduce 67 = .ok (.lastore, 1) := by decide +kernel
theorem d_M_reduce_68 : decode b_M_reduce 68 = .ok (.iinc 2 1, 3) := by decide +kernel
theorem d_M_reduce_71 : decode b_M_reduce 71 = .ok (.goto (-25), 3) := by decide +kernel
theorem d_M_reduce_74 : decode b_M_reduce 74 = .ok (.return_, 1) := by decide +kernel
