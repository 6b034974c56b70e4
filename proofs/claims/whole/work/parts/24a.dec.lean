theorem d_M_cell_0 : decode b_M_cell 0 = .ok (.aload_n 0, 1) := by decide +kernel
theorem d_M_cell_1 : decode b_M_cell 1 = .ok (.getfield 42, 3) := by decide +kernel
theorem d_M_cell_4 : decode b_M_cell 4 = .ok (.bipush 40, 2) := by decide +kernel
theorem d_M_cell_6 : decode b_M_cell 6 = .ok (.if_icmp .ge 88, 3) := by decide +kernel
theorem d_M_cell_9 : decode b_M_cell 9 = .ok (.iload_n 1, 1) := by decide +kernel
theorem d_M_cell_10 : decode b_M_cell 10 = .ok (.i2l, 1) := by decide +kernel
theorem d_M_cell_11 : decode b_M_cell 11 = .ok (.lconst 1, 1) := by decide +kernel
theorem d_M_cell_12 : decode b_M_cell 12 = .ok (.ldc2_w 45, 3) := by decide +kernel
theorem d_M_cell_15 : decode b_M_cell 15 = .ok (.invokestatic 47, 3) := by decide +kernel
theorem d_M_cell_18 : decode b_M_cell 18 = .ok (.ifCond .eq 76, 3) := by decide +kernel
theorem d_M_cell_21 : decode b_M_cell 21 = .ok (.iload_n 2, 1) := by decide +kernel
theorem d_M_cell_22 : decode b_M_cell 22 = .ok (.i2l, 1) := by decide +kernel
theorem d_M_cell_23 : decode b_M_cell 23 = .ok (.lconst 1, 1) := by decide +kernel
theorem d_M_cell_24 : decode b_M_cell 24 = .ok (.ldc2_w 45, 3) := by decide +kernel
theorem d_M_cell_27 : decode b_M_cell 27 = .ok (.invokestatic 47, 3) := by decide +kernel
theorem d_M_cell_30 : decode b_M_cell 30 = .ok (.ifCond .eq 64, 3) := by decide +kernel
theorem d_M_cell_33 : decode b_M_cell 33 = .ok (.iload_n 3, 1) := by decide +kernel
theorem d_M_cell_34 : decode b_M_cell 34 = .ok (.i2l, 1) := by decide +kernel
theorem d_M_cell_35 : decode b_M_cell 35 = .ok (.lconst 1, 1) := by decide +kernel
theorem d_M_cell_36 : decode b_M_cell 36 = .ok (.ldc2_w 45, 3) := by decide +kernel
theorem d_M_cell_39 : decode b_M_cell 39 = .ok (.invokestatic 47, 3) := by decide +kernel
theorem d_M_cell_42 : decode b_M_cell 42 = .ok (.ifCond .eq 52, 3) := by decide +kernel
theorem d_M_cell_45 : decode b_M_cell 45 = .ok (.iload 4, 2) := by decide +kernel
theorem d_M_cell_47 : decode b_M_cell 47 = .ok (.i2l, 1) := by decide +kernel
theorem d_M_cell_48 : decode b_M_cell 48 = .ok (.ldc2_w 51, 3) := by decide +kernel
theorem d_M_cell_51 : decode b_M_cell 51 = .ok (.ldc2_w 45, 3) := by decide +kernel
theorem d_M_cell_54 : decode b_M_cell 54 = .ok (.invokestatic 47, 3) := by decide +kernel
theorem d_M_cell_57 : decode b_M_cell 57 = .ok (.ifCond .eq 37, 3) := by decide +kernel
theorem d_M_cell_60 : decode b_M_cell 60 = .ok (.iload 5, 2) := by decide +kernel
theorem d_M_cell_62 : decode b_M_cell 62 = .ok (.i2l, 1) := by decide +kernel
theorem d_M_cell_63 : decode b_M_cell 63 = .ok (.ldc2_w 51, 3) := by decide +kernel
theorem d_M_cell_66 : decode b_M_cell 66 = .ok (.ldc2_w 45, 3) := by decide +kernel
theorem d_M_cell_69 : decode b_M_cell 69 = .ok (.invokestatic 47, 3) := by decide +kernel
theorem d_M_cell_72 : decode b_M_cell 72 = .ok (.ifCond .eq 22, 3) := by decide +kernel
theorem d_M_cell_75 : decode b_M_cell 75 = .ok (.iload 6, 2) := by decide +kernel
theorem d_M_cell_77 : decode b_M_cell 77 = .ok (.i2l, 1) := by decide +kernel
theorem d_M_cell_78 : decode b_M_cell 78 = .ok (.ldc2_w 51, 3) := by decide +kernel
theorem d_M_cell_81 : decode b_M_cell 81 = .ok (.ldc2_w 45, 3) := by decide +kernel
theorem d_M_cell_84 : decode b_M_cell 84 = .ok (.invokestatic 47, 3) := by decide +kernel
theorem d_M_cell_87 : decode b_M_cell 87 = .ok (.ifCond .eq 7, 3) := by decide +kernel
theorem d_M_cell_90 : decode b_M_cell 90 = .ok (.iconst 1, 1) := by decide +kernel
theorem d_M_cell_91 : decode b_M_cell 91 = .ok (.goto 4, 3) := by decide +kernel
theorem d_M_cell_94 : decode b_M_cell 94 = .ok (.iconst 0, 1) := by decide +kernel
theorem d_M_cell_95 : decode b_M_cell 95 = .ok (.istore 7, 2) := by decide +kernel
theorem d_M_cell_97 : decode b_M_cell 97 = .ok (.iload 7, 2) := by decide +kernel
theorem d_M_cell_99 : decode b_M_cell 99 = .ok (.ifCond .eq 21, 3) := by decide +kernel
theorem d_M_cell_102 : decode b_M_cell 102 = .ok (.iload_n 1, 1) := by decide +kernel
theorem d_M_cell_103 : decode b_M_cell 103 = .ok (.i2l, 1) := by decide +kernel
theorem d_M_cell_104 : decode b_M_cell 104 = .ok (.iload_n 2, 1) := by decide +kernel
theorem d_M_cell_105 : decode b_M_cell 105 = .ok (.i2l, 1) := by decide +kernel
theorem d_M_cell_106 : decode b_M_cell 106 = .ok (.lmul, 1) := by decide +kernel
theorem d_M_cell_107 : decode b_M_cell 107 = .ok (.iload 6, 2) := by decide +kernel
theorem d_M_cell_109 : decode b_M_cell 109 = .ok (.i2l, 1) := by decide +kernel
theorem d_M_cell_110 : decode b_M_cell 110 = .ok (.iload 6, 2) := by decide +kernel
theorem d_M_cell_112 : decode b_M_cell 112 = .ok (.i2l, 1) := by decide +kernel
theorem d_M_cell_113 : decode b_M_cell 113 = .ok (.lmul, 1) := by decide +kernel
theorem d_M_cell_114 : decode b_M_cell 114 = .ok (.lsub, 1) := by decide +kernel
theorem d_M_cell_115 : decode b_M_cell 115 = .ok (.lconst 0, 1) := by decide +kernel
theorem d_M_cell_116 : decode b_M_cell 116 = .ok (.lcmp, 1) := by decide +kernel
theorem d_M_cell_117 : decode b_M_cell 117 = .ok (.ifCond .gt 5, 3) := by decide +kernel
theorem d_M_cell_120 : decode b_M_cell 120 = .ok (.iconst (-1), 1) := by decide +kernel
theorem d_M_cell_121 : decode b_M_cell 121 = .ok (.ireturn, 1) := by decide +kernel
theorem d_M_cell_122 : decode b_M_cell 122 = .ok (.bipush 6, 2) := by decide +kernel
theorem d_M_cell_124 : decode b_M_cell 124 = .ok (.aload_n 0, 1) := by decide +kernel
theorem d_M_cell_125 : decode b_M_cell 125 = .ok (.getfield 42, 3) := by decide +kernel
theorem d_M_cell_128 : decode b_M_cell 128 = .ok (.imul, 1) := by decide +kernel
theorem d_M_cell_129 : decode b_M_cell 129 = .ok (.istore 8, 2) := by decide +kernel
theorem d_M_cell_131 : decode b_M_cell 131 = .ok (.aload_n 0, 1) := by decide +kernel
theorem d_M_cell_132 : decode b_M_cell 132 = .ok (.getfield 13, 3) := by decide +kernel
theorem d_M_cell_135 : decode b_M_cell 135 = .ok (.iload 8, 2) := by decide +kernel
theorem d_M_cell_137 : decode b_M_cell 137 = .ok (.iload_n 1, 1) := by decide +kernel
theorem d_M_cell_138 : decode b_M_cell 138 = .ok (.i2l, 1) := by decide +kernel
theorem d_M_cell_139 : decode b_M_cell 139 = .ok (.lastore, 1) := by decide +kernel
theorem d_M_cell_140 : decode b_M_cell 140 = .ok (.aload_n 0, 1) := by decide +kernel
theorem d_M_cell_141 : decode b_M_cell 141 = .ok (.getfield 13, 3) := by decide +kernel
theorem d_M_cell_144 : decode b_M_cell 144 = .ok (.iload 8, 2) := by decide +kernel
theorem d_M_cell_146 : decode b_M_cell 146 = .ok (.iconst 1, 1) := by decide +kernel
theorem d_M_cell_147 : decode b_M_cell 147 = .ok (.iadd, 1) := by decide +kernel
theorem d_M_cell_148 : decode b_M_cell 148 = .ok (.iload_n 2, 1) := by decide +kernel
theorem d_M_cell_149 : decode b_M_cell 149 = .ok (.i2l, 1) := by decide +kernel
theorem d_M_cell_150 : decode b_M_cell 150 = .ok (.lastore, 1) := by decide +kernel
theorem d_M_cell_151 : decode b_M_cell 151 = .ok (.aload_n 0, 1) := by decide +kernel
theorem d_M_cell_152 : decode b_M_cell 152 = .ok (.getfield 13, 3) := by decide +kernel
theorem d_M_cell_155 : decode b_M_cell 155 = .ok (.iload 8, 2) := by decide +kernel
theorem d_M_cell_157 : decode b_M_cell 157 = .ok (.iconst 2, 1) := by decide +kernel
theorem d_M_cell_158 : decode b_M_cell 158 = .ok (.iadd, 1) := by decide +kernel
theorem d_M_cell_159 : decode b_M_cell 159 = .ok (.iload_n 3, 1) := by decide +kernel
theorem d_M_cell_160 : decode b_M_cell 160 = .ok (.i2l, 1) := by decide +kernel
theorem d_M_cell_161 : decode b_M_cell 161 = .ok (.lastore, 1) := by decide +kernel
theorem d_M_cell_162 : decode b_M_cell 162 = .ok (.aload_n 0, 1) := by decide +kernel
theorem d_M_cell_163 : decode b_M_cell 163 = .ok (.getfield 13, 3) := by decide +kernel
theorem d_M_cell_166 : decode b_M_cell 166 = .ok (.iload 8, 2) := by decide +kernel
theorem d_M_cell_168 : decode b_M_cell 168 = .ok (.iconst 3, 1) := by decide +kernel
theorem d_M_cell_169 : decode b_M_cell 169 = .ok (.iadd, 1) := by decide +kernel
theorem d_M_cell_170 : decode b_M_cell 170 = .ok (.iload 4, 2) := by decide +kernel
theorem d_M_cell_172 : decode b_M_cell 172 = .ok (.i2l, 1) := by decide +kernel
theorem d_M_cell_173 : decode b_M_cell 173 = .ok (.lastore, 1) := by decide +kernel
theorem d_M_cell_174 : decode b_M_cell 174 = .ok (.aload_n 0, 1) := by decide +kernel
theorem d_M_cell_175 : decode b_M_cell 175 = .ok (.getfield 13, 3) := by decide +kernel
theorem d_M_cell_178 : decode b_M_cell 178 = .ok (.iload 8, 2) := by decide +kernel
theorem d_M_cell_180 : decode b_M_cell 180 = .ok (.iconst 4, 1) := by decide +kernel
theorem d_M_cell_181 : decode b_M_cell 181 = .ok (.iadd, 1) := by decide +kernel
theorem d_M_cell_182 : decode b_M_cell 182 = .ok (.iload 5, 2) := by decide +kernel
theorem d_M_cell_184 : decode b_M_cell 184 = .ok (.i2l, 1) := by decide +kernel
theorem d_M_cell_185 : decode b_M_cell 185 = .ok (.lastore, 1) := by decide +kernel
theorem d_M_cell_186 : decode b_M_cell 186 = .ok (.aload_n 0, 1) := by decide +kernel
theorem d_M_cell_187 : decode b_M_cell 187 = .ok (.getfield 13, 3) := by decide +kernel
theorem d_M_cell_190 : decode b_M_cell 190 = .ok (.iload 8, 2) := by decide +kernel
theorem d_M_cell_192 : decode b_M_cell 192 = .ok (.iconst 5, 1) := by decide +kernel
theorem d_M_cell_193 : decode b_M_cell 193 = .ok (.iadd, 1) := by decide +kernel
theorem d_M_cell_194 : decode b_M_cell 194 = .ok (.iload 6, 2) := by decide +kernel
theorem d_M_cell_196 : decode b_M_cell 196 = .ok (.i2l, 1) := by decide +kernel
theorem d_M_cell_197 : decode b_M_cell 197 = .ok (.lastore, 1) := by decide +kernel
theorem d_M_cell_198 : decode b_M_cell 198 = .ok (.aload_n 0, 1) := by decide +kernel
theorem d_M_cell_199 : decode b_M_cell 199 = .ok (.getfield 13, 3) := by decide +kernel
theorem d_M_cell_202 : decode b_M_cell 202 = .ok (.iload 8, 2) := by decide +kernel
theorem d_M_cell_204 : decode b_M_cell 204 = .ok (.invokestatic 53, 3) := by decide +kernel
theorem d_M_cell_207 : decode b_M_cell 207 = .ok (.lconst 0, 1) := by decide +kernel
theorem d_M_cell_208 : decode b_M_cell 208 = .ok (.lcmp, 1) := by decide +kernel
theorem d_M_cell_209 : decode b_M_cell 209 = .ok (.ifCond .gt 5, 3) := by decide +kernel
theorem d_M_cell_212 : decode b_M_cell 212 = .ok (.iconst (-1), 1) := by decide +kernel
theorem d_M_cell_213 : decode b_M_cell 213 = .ok (.ireturn, 1) := by decide +kernel
theorem d_M_cell_214 : decode b_M_cell 214 = .ok (.iconst 0, 1) := by decide +kernel
theorem d_M_cell_215 : decode b_M_cell 215 = .ok (.istore 9, 2) := by decide +kernel
theorem d_M_cell_217 : decode b_M_cell 217 = .ok (.iload 9, 2) := by decide +kernel
theorem d_M_cell_219 : decode b_M_cell 219 = .ok (.bipush 6, 2) := by decide +kernel
theorem d_M_cell_221 : decode b_M_cell 221 = .ok (.if_icmp .ge 26, 3) := by decide +kernel
theorem d_M_cell_224 : decode b_M_cell 224 = .ok (.aload_n 0, 1) := by decide +kernel
theorem d_M_cell_225 : decode b_M_cell 225 = .ok (.getfield 26, 3) := by decide +kernel
theorem d_M_cell_228 : decode b_M_cell 228 = .ok (.iload 9, 2) := by decide +kernel
theorem d_M_cell_230 : decode b_M_cell 230 = .ok (.aload_n 0, 1) := by decide +kernel
theorem d_M_cell_231 : decode b_M_cell 231 = .ok (.getfield 13, 3) := by decide +kernel
theorem d_M_cell_234 : decode b_M_cell 234 = .ok (.iload 8, 2) := by decide +kernel
theorem d_M_cell_236 : decode b_M_cell 236 = .ok (.iload 9, 2) := by decide +kernel
theorem d_M_cell_238 : decode b_M_cell 238 = .ok (.iadd, 1) := by decide +kernel
theorem d_M_cell_239 : decode b_M_cell 239 = .ok (.laload, 1) := by decide +kernel
theorem d_M_cell_240 : decode b_M_cell 240 = .ok (.lastore, 1) := by decide +kernel
theorem d_M_cell_241 : decode b_M_cell 241 = .ok (.iinc 9 1, 3) := by decide +kernel
theorem d_M_cell_244 : decode b_M_cell 244 = .ok (.goto (-27), 3) := by decide +kernel
theorem d_M_cell_247 : decode b_M_cell 247 = .ok (.aload_n 0, 1) := by decide +kernel
theorem d_M_cell_248 : decode b_M_cell 248 = .ok (.iconst 0, 1) := by decide +kernel
theorem d_M_cell_249 : decode b_M_cell 249 = .ok (.putfield 57, 3) := by decide +kernel
theorem d_M_cell_252 : decode b_M_cell 252 = .ok (.aload_n 0, 1) := by decide +kernel
theorem d_M_cell_253 : decode b_M_cell 253 = .ok (.invokevirtual 60, 3) := by decide +kernel
theorem d_M_cell_256 : decode b_M_cell 256 = .ok (.aload_n 0, 1) := by decide +kernel
theorem d_M_cell_257 : decode b_M_cell 257 = .ok (.getfield 23, 3) := by decide +kernel
theorem d_M_cell_260 : decode b_M_cell 260 = .ok (.aload_n 0, 1) := by decide +kernel
theorem d_M_cell_261 : decode b_M_cell 261 = .ok (.getfield 42, 3) := by decide +kernel
theorem d_M_cell_264 : decode b_M_cell 264 = .ok (.aload_n 0, 1) := by decide +kernel
theorem d_M_cell_265 : decode b_M_cell 265 = .ok (.getfield 57, 3) := by decide +kernel
theorem d_M_cell_268 : decode b_M_cell 268 = .ok (.iastore, 1) := by decide +kernel
theorem d_M_cell_269 : decode b_M_cell 269 = .ok (.iconst 0, 1) := by decide +kernel
theorem d_M_cell_270 : decode b_M_cell 270 = .ok (.istore 9, 2) := by decide +kernel
theorem d_M_cell_272 : decode b_M_cell 272 = .ok (.iload 9, 2) := by decide +kernel
theorem d_M_cell_274 : decode b_M_cell 274 = .ok (.bipush 6, 2) := by decide +kernel
theorem d_M_cell_276 : decode b_M_cell 276 = .ok (.if_icmp .ge 26, 3) := by decide +kernel
theorem d_M_cell_279 : decode b_M_cell 279 = .ok (.aload_n 0, 1) := by decide +kernel
theorem d_M_cell_280 : decode b_M_cell 280 = .ok (.getfield 17, 3) := by decide +kernel
theorem d_M_cell_283 : decode b_M_cell 283 = .ok (.iload 8, 2) := by decide +kernel
theorem d_M_cell_285 : decode b_M_cell 285 = .ok (.iload 9, 2) := by decide +kernel
theorem d_M_cell_287 : decode b_M_cell 287 = .ok (.iadd, 1) := by decide +kernel
theorem d_M_cell_288 : decode b_M_cell 288 = .ok (.aload_n 0, 1) := by decide +kernel
theorem d_M_cell_289 : decode b_M_cell 289 = .ok (.getfield 26, 3) := by decide +kernel
theorem d_M_cell_292 : decode b_M_cell 292 = .ok (.iload 9, 2) := by decide +kernel
theorem d_M_cell_294 : decode b_M_cell 294 = .ok (.laload, 1) := by decide +kernel
theorem d_M_cell_295 : decode b_M_cell 295 = .ok (.lastore, 1) := by decide +kernel
theorem d_M_cell_296 : decode b_M_cell 296 = .ok (.iinc 9 1, 3) := by decide +kernel
theorem d_M_cell_299 : decode b_M_cell 299 = .ok (.goto (-27), 3) := by decide +kernel
theorem d_M_cell_302 : decode b_M_cell 302 = .ok (.iconst 0, 1) := by decide +kernel
theorem d_M_cell_303 : decode b_M_cell 303 = .ok (.istore 9, 2) := by decide +kernel
theorem d_M_cell_305 : decode b_M_cell 305 = .ok (.iconst 0, 1) := by decide +kernel
theorem d_M_cell_306 : decode b_M_cell 306 = .ok (.istore 10, 2) := by decide +kernel
theorem d_M_cell_308 : decode b_M_cell 308 = .ok (.iload 10, 2) := by decide +kernel
theorem d_M_cell_310 : decode b_M_cell 310 = .ok (.sipush 19683, 3) := by decide +kernel
theorem d_M_cell_313 : decode b_M_cell 313 = .ok (.if_icmp .ge 38, 3) := by decide +kernel
theorem d_M_cell_316 : decode b_M_cell 316 = .ok (.aload_n 0, 1) := by decide +kernel
theorem d_M_cell_317 : decode b_M_cell 317 = .ok (.iload 10, 2) := by decide +kernel
theorem d_M_cell_319 : decode b_M_cell 319 = .ok (.invokevirtual 63, 3) := by decide +kernel
theorem d_M_cell_322 : decode b_M_cell 322 = .ok (.iload 9, 2) := by decide +kernel
theorem d_M_cell_324 : decode b_M_cell 324 = .ok (.aload_n 0, 1) := by decide +kernel
theorem d_M_cell_325 : decode b_M_cell 325 = .ok (.aload_n 0, 1) := by decide +kernel
theorem d_M_cell_326 : decode b_M_cell 326 = .ok (.getfield 17, 3) := by decide +kernel
theorem d_M_cell_329 : decode b_M_cell 329 = .ok (.iload 8, 2) := by decide +kernel
theorem d_M_cell_331 : decode b_M_cell 331 = .ok (.invokevirtual 67, 3) := by decide +kernel
theorem d_M_cell_334 : decode b_M_cell 334 = .ok (.ifCond .eq 7, 3) := by decide +kernel
theorem d_M_cell_337 : decode b_M_cell 337 = .ok (.iconst 1, 1) := by decide +kernel
theorem d_M_cell_338 : decode b_M_cell 338 = .ok (.goto 4, 3) := by decide +kernel
theorem d_M_cell_341 : decode b_M_cell 341 = .ok (.iconst 0, 1) := by decide +kernel
theorem d_M_cell_342 : decode b_M_cell 342 = .ok (.iadd, 1) := by decide +kernel
theorem d_M_cell_343 : decode b_M_cell 343 = .ok (.istore 9, 2) := by decide +kernel
theorem d_M_cell_345 : decode b_M_cell 345 = .ok (.iinc 10 1, 3) := by decide +kernel
theorem d_M_cell_348 : decode b_M_cell 348 = .ok (.goto (-40), 3) := by decide +kernel
theorem d_M_cell_351 : decode b_M_cell 351 = .ok (.aload_n 0, 1) := by decide +kernel
theorem d_M_cell_352 : decode b_M_cell 352 = .ok (.getfield 20, 3) := by decide +kernel
theorem d_M_cell_355 : decode b_M_cell 355 = .ok (.aload_n 0, 1) := by decide +kernel
theorem d_M_cell_356 : decode b_M_cell 356 = .ok (.getfield 42, 3) := by decide +kernel
theorem d_M_cell_359 : decode b_M_cell 359 = .ok (.iload 9, 2) := by decide +kernel
theorem d_M_cell_361 : decode b_M_cell 361 = .ok (.iastore, 1) := by decide +kernel
theorem d_M_cell_362 : decode b_M_cell 362 = .ok (.aload_n 0, 1) := by decide +kernel
theorem d_M_cell_363 : decode b_M_cell 363 = .ok (.dup, 1) := by decide +kernel
theorem d_M_cell_364 : decode b_M_cell 364 = .ok (.getfield 42, 3) := by decide +kernel
theorem d_M_cell_367 : decode b_M_cell 367 = .ok (.iconst 1, 1) := by decide +kernel
theorem d_M_cell_368 : decode b_M_cell 368 = .ok (.iadd, 1) := by decide +kernel
theorem d_M_cell_369 : decode b_M_cell 369 = .ok (.putfield 42, 3) := by decide +kernel
theorem d_M_cell_372 : decode b_M_cell 372 = .ok (.aload_n 0, 1) := by decide +kernel
theorem d_M_cell_373 : decode b_M_cell 373 = .ok (.getfield 42, 3) := by decide +kernel
theorem d_M_cell_376 : decode b_M_cell 376 = .ok (.iconst 1, 1) := by decide +kernel
theorem d_M_cell_377 : decode b_M_cell 377 = .ok (.isub, 1) := by decide +kernel
theorem d_M_cell_378 : decode b_M_cell 378 = .ok (.ireturn, 1) := by decide +kernel
