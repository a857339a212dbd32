theorem dX5_part_0 : decode cX5_part 0 = .ok (.iconst 0, 1) := by decide +kernel
theorem dX5_part_1 : decode cX5_part 1 = .ok (.istore 4, 2) := by decide +kernel
theorem dX5_part_3 : decode cX5_part 3 = .ok (.iload 4, 2) := by decide +kernel
theorem dX5_part_5 : decode cX5_part 5 = .ok (.bipush 16, 2) := by decide +kernel
theorem dX5_part_7 : decode cX5_part 7 = .ok (.if_icmp .ge 96, 3) := by decide +kernel
theorem dX5_part_10 : decode cX5_part 10 = .ok (.aload_n 0, 1) := by decide +kernel
theorem dX5_part_11 : decode cX5_part 11 = .ok (.getfield 29, 3) := by decide +kernel
theorem dX5_part_14 : decode cX5_part 14 = .ok (.iload 4, 2) := by decide +kernel
theorem dX5_part_16 : decode cX5_part 16 = .ok (.lconst 0, 1) := by decide +kernel
theorem dX5_part_17 : decode cX5_part 17 = .ok (.lastore, 1) := by decide +kernel
theorem dX5_part_18 : decode cX5_part 18 = .ok (.iconst 0, 1) := by decide +kernel
theorem dX5_part_19 : decode cX5_part 19 = .ok (.istore 5, 2) := by decide +kernel
theorem dX5_part_21 : decode cX5_part 21 = .ok (.iload 5, 2) := by decide +kernel
theorem dX5_part_23 : decode cX5_part 23 = .ok (.bipush 8, 2) := by decide +kernel
theorem dX5_part_25 : decode cX5_part 25 = .ok (.if_icmp .ge 40, 3) := by decide +kernel
theorem dX5_part_28 : decode cX5_part 28 = .ok (.aload_n 0, 1) := by decide +kernel
theorem dX5_part_29 : decode cX5_part 29 = .ok (.getfield 29, 3) := by decide +kernel
theorem dX5_part_32 : decode cX5_part 32 = .ok (.iload 4, 2) := by decide +kernel
theorem dX5_part_34 : decode cX5_part 34 = .ok (.dup2, 1) := by decide +kernel
theorem dX5_part_35 : decode cX5_part 35 = .ok (.laload, 1) := by decide +kernel
theorem dX5_part_36 : decode cX5_part 36 = .ok (.aload_n 0, 1) := by decide +kernel
theorem dX5_part_37 : decode cX5_part 37 = .ok (.iload_n 1, 1) := by decide +kernel
theorem dX5_part_38 : decode cX5_part 38 = .ok (.bipush 8, 2) := by decide +kernel
theorem dX5_part_40 : decode cX5_part 40 = .ok (.iload 4, 2) := by decide +kernel
theorem dX5_part_42 : decode cX5_part 42 = .ok (.imul, 1) := by decide +kernel
theorem dX5_part_43 : decode cX5_part 43 = .ok (.iadd, 1) := by decide +kernel
theorem dX5_part_44 : decode cX5_part 44 = .ok (.iload 5, 2) := by decide +kernel
theorem dX5_part_46 : decode cX5_part 46 = .ok (.iadd, 1) := by decide +kernel
theorem dX5_part_47 : decode cX5_part 47 = .ok (.invokevirtual 112, 3) := by decide +kernel
theorem dX5_part_50 : decode cX5_part 50 = .ok (.i2l, 1) := by decide +kernel
theorem dX5_part_51 : decode cX5_part 51 = .ok (.bipush 8, 2) := by decide +kernel
theorem dX5_part_53 : decode cX5_part 53 = .ok (.iload 5, 2) := by decide +kernel
theorem dX5_part_55 : decode cX5_part 55 = .ok (.imul, 1) := by decide +kernel
theorem dX5_part_56 : decode cX5_part 56 = .ok (.lshl, 1) := by decide +kernel
theorem dX5_part_57 : decode cX5_part 57 = .ok (.lor, 1) := by decide +kernel
theorem dX5_part_58 : decode cX5_part 58 = .ok (.lastore, 1) := by decide +kernel
theorem dX5_part_59 : decode cX5_part 59 = .ok (.iinc 5 1, 3) := by decide +kernel
theorem dX5_part_62 : decode cX5_part 62 = .ok (.goto (-41), 3) := by decide +kernel
theorem dX5_part_65 : decode cX5_part 65 = .ok (.aload_n 0, 1) := by decide +kernel
theorem dX5_part_66 : decode cX5_part 66 = .ok (.getfield 26, 3) := by decide +kernel
theorem dX5_part_69 : decode cX5_part 69 = .ok (.iload 4, 2) := by decide +kernel
theorem dX5_part_71 : decode cX5_part 71 = .ok (.iload 4, 2) := by decide +kernel
theorem dX5_part_73 : decode cX5_part 73 = .ok (.bipush 8, 2) := by decide +kernel
theorem dX5_part_75 : decode cX5_part 75 = .ok (.if_icmp .ge 13, 3) := by decide +kernel
theorem dX5_part_78 : decode cX5_part 78 = .ok (.aload_n 0, 1) := by decide +kernel
theorem dX5_part_79 : decode cX5_part 79 = .ok (.getfield 22, 3) := by decide +kernel
theorem dX5_part_82 : decode cX5_part 82 = .ok (.iload 4, 2) := by decide +kernel
theorem dX5_part_84 : decode cX5_part 84 = .ok (.laload, 1) := by decide +kernel
theorem dX5_part_85 : decode cX5_part 85 = .ok (.goto 11, 3) := by decide +kernel
theorem dX5_part_88 : decode cX5_part 88 = .ok (.iload 4, 2) := by decide +kernel
theorem dX5_part_90 : decode cX5_part 90 = .ok (.bipush 8, 2) := by decide +kernel
theorem dX5_part_92 : decode cX5_part 92 = .ok (.isub, 1) := by decide +kernel
theorem dX5_part_93 : decode cX5_part 93 = .ok (.invokestatic 116, 3) := by decide +kernel
theorem dX5_part_96 : decode cX5_part 96 = .ok (.lastore, 1) := by decide +kernel
theorem dX5_part_97 : decode cX5_part 97 = .ok (.iinc 4 1, 3) := by decide +kernel
theorem dX5_part_100 : decode cX5_part 100 = .ok (.goto (-97), 3) := by decide +kernel
theorem dX5_part_103 : decode cX5_part 103 = .ok (.aload_n 0, 1) := by decide +kernel
theorem dX5_part_104 : decode cX5_part 104 = .ok (.getfield 26, 3) := by decide +kernel
theorem dX5_part_107 : decode cX5_part 107 = .ok (.bipush 12, 2) := by decide +kernel
theorem dX5_part_109 : decode cX5_part 109 = .ok (.dup2, 1) := by decide +kernel
theorem dX5_part_110 : decode cX5_part 110 = .ok (.laload, 1) := by decide +kernel
theorem dX5_part_111 : decode cX5_part 111 = .ok (.iload_n 2, 1) := by decide +kernel
theorem dX5_part_112 : decode cX5_part 112 = .ok (.i2l, 1) := by decide +kernel
theorem dX5_part_113 : decode cX5_part 113 = .ok (.lxor, 1) := by decide +kernel
theorem dX5_part_114 : decode cX5_part 114 = .ok (.lastore, 1) := by decide +kernel
theorem dX5_part_115 : decode cX5_part 115 = .ok (.aload_n 0, 1) := by decide +kernel
theorem dX5_part_116 : decode cX5_part 116 = .ok (.getfield 26, 3) := by decide +kernel
theorem dX5_part_119 : decode cX5_part 119 = .ok (.bipush 14, 2) := by decide +kernel
theorem dX5_part_121 : decode cX5_part 121 = .ok (.iload_n 3, 1) := by decide +kernel
theorem dX5_part_122 : decode cX5_part 122 = .ok (.ifCond .eq 17, 3) := by decide +kernel
theorem dX5_part_125 : decode cX5_part 125 = .ok (.aload_n 0, 1) := by decide +kernel
theorem dX5_part_126 : decode cX5_part 126 = .ok (.getfield 26, 3) := by decide +kernel
theorem dX5_part_129 : decode cX5_part 129 = .ok (.bipush 14, 2) := by decide +kernel
theorem dX5_part_131 : decode cX5_part 131 = .ok (.laload, 1) := by decide +kernel
theorem dX5_part_132 : decode cX5_part 132 = .ok (.ldc2_w 120, 3) := by decide +kernel
theorem dX5_part_135 : decode cX5_part 135 = .ok (.lxor, 1) := by decide +kernel
theorem dX5_part_136 : decode cX5_part 136 = .ok (.goto 10, 3) := by decide +kernel
theorem dX5_part_139 : decode cX5_part 139 = .ok (.aload_n 0, 1) := by decide +kernel
theorem dX5_part_140 : decode cX5_part 140 = .ok (.getfield 26, 3) := by decide +kernel
theorem dX5_part_143 : decode cX5_part 143 = .ok (.bipush 14, 2) := by decide +kernel
theorem dX5_part_145 : decode cX5_part 145 = .ok (.laload, 1) := by decide +kernel
theorem dX5_part_146 : decode cX5_part 146 = .ok (.lastore, 1) := by decide +kernel
theorem dX5_part_147 : decode cX5_part 147 = .ok (.iconst 0, 1) := by decide +kernel
theorem dX5_part_148 : decode cX5_part 148 = .ok (.istore 4, 2) := by decide +kernel
theorem dX5_part_150 : decode cX5_part 150 = .ok (.iload 4, 2) := by decide +kernel
theorem dX5_part_152 : decode cX5_part 152 = .ok (.bipush 12, 2) := by decide +kernel
theorem dX5_part_154 : decode cX5_part 154 = .ok (.if_icmp .ge 222, 3) := by decide +kernel
theorem dX5_part_157 : decode cX5_part 157 = .ok (.iload 4, 2) := by decide +kernel
theorem dX5_part_159 : decode cX5_part 159 = .ok (.invokestatic 122, 3) := by decide +kernel
theorem dX5_part_162 : decode cX5_part 162 = .ok (.lstore 5, 2) := by decide +kernel
theorem dX5_part_164 : decode cX5_part 164 = .ok (.aload_n 0, 1) := by decide +kernel
theorem dX5_part_165 : decode cX5_part 165 = .ok (.iconst 0, 1) := by decide +kernel
theorem dX5_part_166 : decode cX5_part 166 = .ok (.iconst 4, 1) := by decide +kernel
theorem dX5_part_167 : decode cX5_part 167 = .ok (.bipush 8, 2) := by decide +kernel
theorem dX5_part_169 : decode cX5_part 169 = .ok (.bipush 12, 2) := by decide +kernel
theorem dX5_part_171 : decode cX5_part 171 = .ok (.aload_n 0, 1) := by decide +kernel
theorem dX5_part_172 : decode cX5_part 172 = .ok (.lload 5, 2) := by decide +kernel
theorem dX5_part_174 : decode cX5_part 174 = .ok (.iconst 0, 1) := by decide +kernel
theorem dX5_part_175 : decode cX5_part 175 = .ok (.invokevirtual 125, 3) := by decide +kernel
theorem dX5_part_178 : decode cX5_part 178 = .ok (.aload_n 0, 1) := by decide +kernel
theorem dX5_part_179 : decode cX5_part 179 = .ok (.lload 5, 2) := by decide +kernel
theorem dX5_part_181 : decode cX5_part 181 = .ok (.iconst 1, 1) := by decide +kernel
theorem dX5_part_182 : decode cX5_part 182 = .ok (.invokevirtual 125, 3) := by decide +kernel
theorem dX5_part_185 : decode cX5_part 185 = .ok (.invokevirtual 128, 3) := by decide +kernel
theorem dX5_part_188 : decode cX5_part 188 = .ok (.aload_n 0, 1) := by decide +kernel
theorem dX5_part_189 : decode cX5_part 189 = .ok (.iconst 1, 1) := by decide +kernel
theorem dX5_part_190 : decode cX5_part 190 = .ok (.iconst 5, 1) := by decide +kernel
theorem dX5_part_191 : decode cX5_part 191 = .ok (.bipush 9, 2) := by decide +kernel
theorem dX5_part_193 : decode cX5_part 193 = .ok (.bipush 13, 2) := by decide +kernel
theorem dX5_part_195 : decode cX5_part 195 = .ok (.aload_n 0, 1) := by decide +kernel
theorem dX5_part_196 : decode cX5_part 196 = .ok (.lload 5, 2) := by decide +kernel
theorem dX5_part_198 : decode cX5_part 198 = .ok (.iconst 2, 1) := by decide +kernel
theorem dX5_part_199 : decode cX5_part 199 = .ok (.invokevirtual 125, 3) := by decide +kernel
theorem dX5_part_202 : decode cX5_part 202 = .ok (.aload_n 0, 1) := by decide +kernel
theorem dX5_part_203 : decode cX5_part 203 = .ok (.lload 5, 2) := by decide +kernel
theorem dX5_part_205 : decode cX5_part 205 = .ok (.iconst 3, 1) := by decide +kernel
theorem dX5_part_206 : decode cX5_part 206 = .ok (.invokevirtual 125, 3) := by decide +kernel
theorem dX5_part_209 : decode cX5_part 209 = .ok (.invokevirtual 128, 3) := by decide +kernel
theorem dX5_part_212 : decode cX5_part 212 = .ok (.aload_n 0, 1) := by decide +kernel
theorem dX5_part_213 : decode cX5_part 213 = .ok (.iconst 2, 1) := by decide +kernel
theorem dX5_part_214 : decode cX5_part 214 = .ok (.bipush 6, 2) := by decide +kernel
theorem dX5_part_216 : decode cX5_part 216 = .ok (.bipush 10, 2) := by decide +kernel
theorem dX5_part_218 : decode cX5_part 218 = .ok (.bipush 14, 2) := by decide +kernel
theorem dX5_part_220 : decode cX5_part 220 = .ok (.aload_n 0, 1) := by decide +kernel
theorem dX5_part_221 : decode cX5_part 221 = .ok (.lload 5, 2) := by decide +kernel
theorem dX5_part_223 : decode cX5_part 223 = .ok (.iconst 4, 1) := by decide +kernel
theorem dX5_part_224 : decode cX5_part 224 = .ok (.invokevirtual 125, 3) := by decide +kernel
theorem dX5_part_227 : decode cX5_part 227 = .ok (.aload_n 0, 1) := by decide +kernel
theorem dX5_part_228 : decode cX5_part 228 = .ok (.lload 5, 2) := by decide +kernel
theorem dX5_part_230 : decode cX5_part 230 = .ok (.iconst 5, 1) := by decide +kernel
theorem dX5_part_231 : decode cX5_part 231 = .ok (.invokevirtual 125, 3) := by decide +kernel
theorem dX5_part_234 : decode cX5_part 234 = .ok (.invokevirtual 128, 3) := by decide +kernel
theorem dX5_part_237 : decode cX5_part 237 = .ok (.aload_n 0, 1) := by decide +kernel
theorem dX5_part_238 : decode cX5_part 238 = .ok (.iconst 3, 1) := by decide +kernel
theorem dX5_part_239 : decode cX5_part 239 = .ok (.bipush 7, 2) := by decide +kernel
theorem dX5_part_241 : decode cX5_part 241 = .ok (.bipush 11, 2) := by decide +kernel
theorem dX5_part_243 : decode cX5_part 243 = .ok (.bipush 15, 2) := by decide +kernel
theorem dX5_part_245 : decode cX5_part 245 = .ok (.aload_n 0, 1) := by decide +kernel
theorem dX5_part_246 : decode cX5_part 246 = .ok (.lload 5, 2) := by decide +kernel
theorem dX5_part_248 : decode cX5_part 248 = .ok (.bipush 6, 2) := by decide +kernel
theorem dX5_part_250 : decode cX5_part 250 = .ok (.invokevirtual 125, 3) := by decide +kernel
theorem dX5_part_253 : decode cX5_part 253 = .ok (.aload_n 0, 1) := by decide +kernel
theorem dX5_part_254 : decode cX5_part 254 = .ok (.lload 5, 2) := by decide +kernel
theorem dX5_part_256 : decode cX5_part 256 = .ok (.bipush 7, 2) := by decide +kernel
theorem dX5_part_258 : decode cX5_part 258 = .ok (.invokevirtual 125, 3) := by decide +kernel
theorem dX5_part_261 : decode cX5_part 261 = .ok (.invokevirtual 128, 3) := by decide +kernel
theorem dX5_part_264 : decode cX5_part 264 = .ok (.aload_n 0, 1) := by decide +kernel
theorem dX5_part_265 : decode cX5_part 265 = .ok (.iconst 0, 1) := by decide +kernel
theorem dX5_part_266 : decode cX5_part 266 = .ok (.iconst 5, 1) := by decide +kernel
theorem dX5_part_267 : decode cX5_part 267 = .ok (.bipush 10, 2) := by decide +kernel
theorem dX5_part_269 : decode cX5_part 269 = .ok (.bipush 15, 2) := by decide +kernel
theorem dX5_part_271 : decode cX5_part 271 = .ok (.aload_n 0, 1) := by decide +kernel
theorem dX5_part_272 : decode cX5_part 272 = .ok (.lload 5, 2) := by decide +kernel
theorem dX5_part_274 : decode cX5_part 274 = .ok (.bipush 8, 2) := by decide +kernel
theorem dX5_part_276 : decode cX5_part 276 = .ok (.invokevirtual 125, 3) := by decide +kernel
theorem dX5_part_279 : decode cX5_part 279 = .ok (.aload_n 0, 1) := by decide +kernel
theorem dX5_part_280 : decode cX5_part 280 = .ok (.lload 5, 2) := by decide +kernel
theorem dX5_part_282 : decode cX5_part 282 = .ok (.bipush 9, 2) := by decide +kernel
theorem dX5_part_284 : decode cX5_part 284 = .ok (.invokevirtual 125, 3) := by decide +kernel
theorem dX5_part_287 : decode cX5_part 287 = .ok (.invokevirtual 128, 3) := by decide +kernel
theorem dX5_part_290 : decode cX5_part 290 = .ok (.aload_n 0, 1) := by decide +kernel
theorem dX5_part_291 : decode cX5_part 291 = .ok (.iconst 1, 1) := by decide +kernel
theorem dX5_part_292 : decode cX5_part 292 = .ok (.bipush 6, 2) := by decide +kernel
theorem dX5_part_294 : decode cX5_part 294 = .ok (.bipush 11, 2) := by decide +kernel
theorem dX5_part_296 : decode cX5_part 296 = .ok (.bipush 12, 2) := by decide +kernel
theorem dX5_part_298 : decode cX5_part 298 = .ok (.aload_n 0, 1) := by decide +kernel
theorem dX5_part_299 : decode cX5_part 299 = .ok (.lload 5, 2) := by decide +kernel
theorem dX5_part_301 : decode cX5_part 301 = .ok (.bipush 10, 2) := by decide +kernel
theorem dX5_part_303 : decode cX5_part 303 = .ok (.invokevirtual 125, 3) := by decide +kernel
theorem dX5_part_306 : decode cX5_part 306 = .ok (.aload_n 0, 1) := by decide +kernel
theorem dX5_part_307 : decode cX5_part 307 = .ok (.lload 5, 2) := by decide +kernel
theorem dX5_part_309 : decode cX5_part 309 = .ok (.bipush 11, 2) := by decide +kernel
theorem dX5_part_311 : decode cX5_part 311 = .ok (.invokevirtual 125, 3) := by decide +kernel
theorem dX5_part_314 : decode cX5_part 314 = .ok (.invokevirtual 128, 3) := by decide +kernel
theorem dX5_part_317 : decode cX5_part 317 = .ok (.aload_n 0, 1) := by decide +kernel
theorem dX5_part_318 : decode cX5_part 318 = .ok (.iconst 2, 1) := by decide +kernel
theorem dX5_part_319 : decode cX5_part 319 = .ok (.bipush 7, 2) := by decide +kernel
theorem dX5_part_321 : decode cX5_part 321 = .ok (.bipush 8, 2) := by decide +kernel
theorem dX5_part_323 : decode cX5_part 323 = .ok (.bipush 13, 2) := by decide +kernel
theorem dX5_part_325 : decode cX5_part 325 = .ok (.aload_n 0, 1) := by decide +kernel
theorem dX5_part_326 : decode cX5_part 326 = .ok (.lload 5, 2) := by decide +kernel
theorem dX5_part_328 : decode cX5_part 328 = .ok (.bipush 12, 2) := by decide +kernel
theorem dX5_part_330 : decode cX5_part 330 = .ok (.invokevirtual 125, 3) := by decide +kernel
theorem dX5_part_333 : decode cX5_part 333 = .ok (.aload_n 0, 1) := by decide +kernel
theorem dX5_part_334 : decode cX5_part 334 = .ok (.lload 5, 2) := by decide +kernel
theorem dX5_part_336 : decode cX5_part 336 = .ok (.bipush 13, 2) := by decide +kernel
theorem dX5_part_338 : decode cX5_part 338 = .ok (.invokevirtual 125, 3) := by decide +kernel
theorem dX5_part_341 : decode cX5_part 341 = .ok (.invokevirtual 128, 3) := by decide +kernel
theorem dX5_part_344 : decode cX5_part 344 = .ok (.aload_n 0, 1) := by decide +kernel
theorem dX5_part_345 : decode cX5_part 345 = .ok (.iconst 3, 1) := by decide +kernel
theorem dX5_part_346 : decode cX5_part 346 = .ok (.iconst 4, 1) := by decide +kernel
theorem dX5_part_347 : decode cX5_part 347 = .ok (.bipush 9, 2) := by decide +kernel
theorem dX5_part_349 : decode cX5_part 349 = .ok (.bipush 14, 2) := by decide +kernel
theorem dX5_part_351 : decode cX5_part 351 = .ok (.aload_n 0, 1) := by decide +kernel
theorem dX5_part_352 : decode cX5_part 352 = .ok (.lload 5, 2) := by decide +kernel
theorem dX5_part_354 : decode cX5_part 354 = .ok (.bipush 14, 2) := by decide +kernel
theorem dX5_part_356 : decode cX5_part 356 = .ok (.invokevirtual 125, 3) := by decide +kernel
theorem dX5_part_359 : decode cX5_part 359 = .ok (.aload_n 0, 1) := by decide +kernel
theorem dX5_part_360 : decode cX5_part 360 = .ok (.lload 5, 2) := by decide +kernel
theorem dX5_part_362 : decode cX5_part 362 = .ok (.bipush 15, 2) := by decide +kernel
theorem dX5_part_364 : decode cX5_part 364 = .ok (.invokevirtual 125, 3) := by decide +kernel
theorem dX5_part_367 : decode cX5_part 367 = .ok (.invokevirtual 128, 3) := by decide +kernel
theorem dX5_part_370 : decode cX5_part 370 = .ok (.iinc 4 1, 3) := by decide +kernel
theorem dX5_part_373 : decode cX5_part 373 = .ok (.goto (-223), 3) := by decide +kernel
theorem dX5_part_376 : decode cX5_part 376 = .ok (.iconst 0, 1) := by decide +kernel
theorem dX5_part_377 : decode cX5_part 377 = .ok (.istore 4, 2) := by decide +kernel
theorem dX5_part_379 : decode cX5_part 379 = .ok (.iload 4, 2) := by decide +kernel
theorem dX5_part_381 : decode cX5_part 381 = .ok (.bipush 8, 2) := by decide +kernel
theorem dX5_part_383 : decode cX5_part 383 = .ok (.if_icmp .ge 37, 3) := by decide +kernel
theorem dX5_part_386 : decode cX5_part 386 = .ok (.aload_n 0, 1) := by decide +kernel
theorem dX5_part_387 : decode cX5_part 387 = .ok (.getfield 22, 3) := by decide +kernel
theorem dX5_part_390 : decode cX5_part 390 = .ok (.iload 4, 2) := by decide +kernel
theorem dX5_part_392 : decode cX5_part 392 = .ok (.dup2, 1) := by decide +kernel
theorem dX5_part_393 : decode cX5_part 393 = .ok (.laload, 1) := by decide +kernel
theorem dX5_part_394 : decode cX5_part 394 = .ok (.aload_n 0, 1) := by decide +kernel
theorem dX5_part_395 : decode cX5_part 395 = .ok (.getfield 26, 3) := by decide +kernel
theorem dX5_part_398 : decode cX5_part 398 = .ok (.iload 4, 2) := by decide +kernel
theorem dX5_part_400 : decode cX5_part 400 = .ok (.laload, 1) := by decide +kernel
theorem dX5_part_401 : decode cX5_part 401 = .ok (.aload_n 0, 1) := by decide +kernel
theorem dX5_part_402 : decode cX5_part 402 = .ok (.getfield 26, 3) := by decide +kernel
theorem dX5_part_405 : decode cX5_part 405 = .ok (.iload 4, 2) := by decide +kernel
theorem dX5_part_407 : decode cX5_part 407 = .ok (.bipush 8, 2) := by decide +kernel
theorem dX5_part_409 : decode cX5_part 409 = .ok (.iadd, 1) := by decide +kernel
theorem dX5_part_410 : decode cX5_part 410 = .ok (.laload, 1) := by decide +kernel
theorem dX5_part_411 : decode cX5_part 411 = .ok (.lxor, 1) := by decide +kernel
theorem dX5_part_412 : decode cX5_part 412 = .ok (.lxor, 1) := by decide +kernel
theorem dX5_part_413 : decode cX5_part 413 = .ok (.lastore, 1) := by decide +kernel
theorem dX5_part_414 : decode cX5_part 414 = .ok (.iinc 4 1, 3) := by decide +kernel
theorem dX5_part_417 : decode cX5_part 417 = .ok (.goto (-38), 3) := by decide +kernel
theorem dX5_part_420 : decode cX5_part 420 = .ok (.return_, 1) := by decide +kernel
theorem dX5_hashTo_0 : decode cX5_hashTo 0 = .ok (.iconst 0, 1) := by decide +kernel
theorem dX5_hashTo_1 : decode cX5_hashTo 1 = .ok (.istore_n 3, 1) := by decide +kernel
theorem dX5_hashTo_2 : decode cX5_hashTo 2 = .ok (.iload_n 3, 1) := by decide +kernel
theorem dX5_hashTo_3 : decode cX5_hashTo 3 = .ok (.bipush 8, 2) := by decide +kernel
theorem dX5_hashTo_5 : decode cX5_hashTo 5 = .ok (.if_icmp .ge 19, 3) := by decide +kernel
theorem dX5_hashTo_8 : decode cX5_hashTo 8 = .ok (.aload_n 0, 1) := by decide +kernel
theorem dX5_hashTo_9 : decode cX5_hashTo 9 = .ok (.getfield 22, 3) := by decide +kernel
theorem dX5_hashTo_12 : decode cX5_hashTo 12 = .ok (.iload_n 3, 1) := by decide +kernel
theorem dX5_hashTo_13 : decode cX5_hashTo 13 = .ok (.iload_n 3, 1) := by decide +kernel
theorem dX5_hashTo_14 : decode cX5_hashTo 14 = .ok (.invokestatic 116, 3) := by decide +kernel
theorem dX5_hashTo_17 : decode cX5_hashTo 17 = .ok (.lastore, 1) := by decide +kernel
theorem dX5_hashTo_18 : decode cX5_hashTo 18 = .ok (.iinc 3 1, 3) := by decide +kernel
theorem dX5_hashTo_21 : decode cX5_hashTo 21 = .ok (.goto (-19), 3) := by decide +kernel
theorem dX5_hashTo_24 : decode cX5_hashTo 24 = .ok (.aload_n 0, 1) := by decide +kernel
theorem dX5_hashTo_25 : decode cX5_hashTo 25 = .ok (.getfield 22, 3) := by decide +kernel
theorem dX5_hashTo_28 : decode cX5_hashTo 28 = .ok (.iconst 0, 1) := by decide +kernel
theorem dX5_hashTo_29 : decode cX5_hashTo 29 = .ok (.dup2, 1) := by decide +kernel
theorem dX5_hashTo_30 : decode cX5_hashTo 30 = .ok (.laload, 1) := by decide +kernel
theorem dX5_hashTo_31 : decode cX5_hashTo 31 = .ok (.ldc2_w 132, 3) := by decide +kernel
theorem dX5_hashTo_34 : decode cX5_hashTo 34 = .ok (.ldc2_w 134, 3) := by decide +kernel
theorem dX5_hashTo_37 : decode cX5_hashTo 37 = .ok (.aload_n 0, 1) := by decide +kernel
theorem dX5_hashTo_38 : decode cX5_hashTo 38 = .ok (.getfield 106, 3) := by decide +kernel
theorem dX5_hashTo_41 : decode cX5_hashTo 41 = .ok (.i2l, 1) := by decide +kernel
theorem dX5_hashTo_42 : decode cX5_hashTo 42 = .ok (.lmul, 1) := by decide +kernel
theorem dX5_hashTo_43 : decode cX5_hashTo 43 = .ok (.lxor, 1) := by decide +kernel
theorem dX5_hashTo_44 : decode cX5_hashTo 44 = .ok (.iload_n 2, 1) := by decide +kernel
theorem dX5_hashTo_45 : decode cX5_hashTo 45 = .ok (.i2l, 1) := by decide +kernel
theorem dX5_hashTo_46 : decode cX5_hashTo 46 = .ok (.lxor, 1) := by decide +kernel
theorem dX5_hashTo_47 : decode cX5_hashTo 47 = .ok (.lxor, 1) := by decide +kernel
theorem dX5_hashTo_48 : decode cX5_hashTo 48 = .ok (.lastore, 1) := by decide +kernel
theorem dX5_hashTo_49 : decode cX5_hashTo 49 = .ok (.aload_n 0, 1) := by decide +kernel
theorem dX5_hashTo_50 : decode cX5_hashTo 50 = .ok (.getfield 109, 3) := by decide +kernel
theorem dX5_hashTo_53 : decode cX5_hashTo 53 = .ok (.aload_n 0, 1) := by decide +kernel
theorem dX5_hashTo_54 : decode cX5_hashTo 54 = .ok (.getfield 106, 3) := by decide +kernel
theorem dX5_hashTo_57 : decode cX5_hashTo 57 = .ok (.ifCond .le 9, 3) := by decide +kernel
theorem dX5_hashTo_60 : decode cX5_hashTo 60 = .ok (.sipush 128, 3) := by decide +kernel
theorem dX5_hashTo_63 : decode cX5_hashTo 63 = .ok (.goto 4, 3) := by decide +kernel
theorem dX5_hashTo_66 : decode cX5_hashTo 66 = .ok (.iconst 0, 1) := by decide +kernel
theorem dX5_hashTo_67 : decode cX5_hashTo 67 = .ok (.iadd, 1) := by decide +kernel
theorem dX5_hashTo_68 : decode cX5_hashTo 68 = .ok (.istore_n 3, 1) := by decide +kernel
theorem dX5_hashTo_69 : decode cX5_hashTo 69 = .ok (.iconst 0, 1) := by decide +kernel
theorem dX5_hashTo_70 : decode cX5_hashTo 70 = .ok (.istore 4, 2) := by decide +kernel
theorem dX5_hashTo_72 : decode cX5_hashTo 72 = .ok (.iconst 1, 1) := by decide +kernel
theorem dX5_hashTo_73 : decode cX5_hashTo 73 = .ok (.istore 5, 2) := by decide +kernel
theorem dX5_hashTo_75 : decode cX5_hashTo 75 = .ok (.iload 5, 2) := by decide +kernel
theorem dX5_hashTo_77 : decode cX5_hashTo 77 = .ok (.ifCond .eq 60, 3) := by decide +kernel
theorem dX5_hashTo_80 : decode cX5_hashTo 80 = .ok (.iload_n 3, 1) := by decide +kernel
theorem dX5_hashTo_81 : decode cX5_hashTo 81 = .ok (.iload 4, 2) := by decide +kernel
theorem dX5_hashTo_83 : decode cX5_hashTo 83 = .ok (.sipush 128, 3) := by decide +kernel
theorem dX5_hashTo_86 : decode cX5_hashTo 86 = .ok (.iadd, 1) := by decide +kernel
theorem dX5_hashTo_87 : decode cX5_hashTo 87 = .ok (.if_icmp .le 7, 3) := by decide +kernel
theorem dX5_hashTo_90 : decode cX5_hashTo 90 = .ok (.iconst 1, 1) := by decide +kernel
theorem dX5_hashTo_91 : decode cX5_hashTo 91 = .ok (.goto 4, 3) := by decide +kernel
theorem dX5_hashTo_94 : decode cX5_hashTo 94 = .ok (.iconst 0, 1) := by decide +kernel
theorem dX5_hashTo_95 : decode cX5_hashTo 95 = .ok (.istore 5, 2) := by decide +kernel
theorem dX5_hashTo_97 : decode cX5_hashTo 97 = .ok (.aload_n 0, 1) := by decide +kernel
theorem dX5_hashTo_98 : decode cX5_hashTo 98 = .ok (.iload 4, 2) := by decide +kernel
theorem dX5_hashTo_100 : decode cX5_hashTo 100 = .ok (.iload 5, 2) := by decide +kernel
theorem dX5_hashTo_102 : decode cX5_hashTo 102 = .ok (.ifCond .eq 12, 3) := by decide +kernel
theorem dX5_hashTo_105 : decode cX5_hashTo 105 = .ok (.iload 4, 2) := by decide +kernel
theorem dX5_hashTo_107 : decode cX5_hashTo 107 = .ok (.sipush 128, 3) := by decide +kernel
theorem dX5_hashTo_110 : decode cX5_hashTo 110 = .ok (.iadd, 1) := by decide +kernel
theorem dX5_hashTo_111 : decode cX5_hashTo 111 = .ok (.goto 4, 3) := by decide +kernel
theorem dX5_hashTo_114 : decode cX5_hashTo 114 = .ok (.iload_n 3, 1) := by decide +kernel
theorem dX5_hashTo_115 : decode cX5_hashTo 115 = .ok (.iload 5, 2) := by decide +kernel
theorem dX5_hashTo_117 : decode cX5_hashTo 117 = .ok (.ifCond .ne 7, 3) := by decide +kernel
theorem dX5_hashTo_120 : decode cX5_hashTo 120 = .ok (.iconst 1, 1) := by decide +kernel
theorem dX5_hashTo_121 : decode cX5_hashTo 121 = .ok (.goto 4, 3) := by decide +kernel
theorem dX5_hashTo_124 : decode cX5_hashTo 124 = .ok (.iconst 0, 1) := by decide +kernel
theorem dX5_hashTo_125 : decode cX5_hashTo 125 = .ok (.invokevirtual 136, 3) := by decide +kernel
theorem dX5_hashTo_128 : decode cX5_hashTo 128 = .ok (.iinc 4 128, 6) := by decide +kernel
theorem dX5_hashTo_134 : decode cX5_hashTo 134 = .ok (.goto (-59), 3) := by decide +kernel
theorem dX5_hashTo_137 : decode cX5_hashTo 137 = .ok (.iconst 0, 1) := by decide +kernel
theorem dX5_hashTo_138 : decode cX5_hashTo 138 = .ok (.istore 6, 2) := by decide +kernel
theorem dX5_hashTo_140 : decode cX5_hashTo 140 = .ok (.iload 6, 2) := by decide +kernel
theorem dX5_hashTo_142 : decode cX5_hashTo 142 = .ok (.iload_n 2, 1) := by decide +kernel
theorem dX5_hashTo_143 : decode cX5_hashTo 143 = .ok (.if_icmp .ge 42, 3) := by decide +kernel
theorem dX5_hashTo_146 : decode cX5_hashTo 146 = .ok (.aload_n 0, 1) := by decide +kernel
theorem dX5_hashTo_147 : decode cX5_hashTo 147 = .ok (.getfield 32, 3) := by decide +kernel
theorem dX5_hashTo_150 : decode cX5_hashTo 150 = .ok (.iload_n 1, 1) := by decide +kernel
theorem dX5_hashTo_151 : decode cX5_hashTo 151 = .ok (.iload 6, 2) := by decide +kernel
theorem dX5_hashTo_153 : decode cX5_hashTo 153 = .ok (.iadd, 1) := by decide +kernel
theorem dX5_hashTo_154 : decode cX5_hashTo 154 = .ok (.aload_n 0, 1) := by decide +kernel
theorem dX5_hashTo_155 : decode cX5_hashTo 155 = .ok (.getfield 22, 3) := by decide +kernel
theorem dX5_hashTo_158 : decode cX5_hashTo 158 = .ok (.iload 6, 2) := by decide +kernel
theorem dX5_hashTo_160 : decode cX5_hashTo 160 = .ok (.bipush 8, 2) := by decide +kernel
theorem dX5_hashTo_162 : decode cX5_hashTo 162 = .ok (.idiv, 1) := by decide +kernel
theorem dX5_hashTo_163 : decode cX5_hashTo 163 = .ok (.laload, 1) := by decide +kernel
theorem dX5_hashTo_164 : decode cX5_hashTo 164 = .ok (.bipush 8, 2) := by decide +kernel
theorem dX5_hashTo_166 : decode cX5_hashTo 166 = .ok (.iload 6, 2) := by decide +kernel
theorem dX5_hashTo_168 : decode cX5_hashTo 168 = .ok (.bipush 8, 2) := by decide +kernel
theorem dX5_hashTo_170 : decode cX5_hashTo 170 = .ok (.irem, 1) := by decide +kernel
theorem dX5_hashTo_171 : decode cX5_hashTo 171 = .ok (.imul, 1) := by decide +kernel
theorem dX5_hashTo_172 : decode cX5_hashTo 172 = .ok (.lshr, 1) := by decide +kernel
theorem dX5_hashTo_173 : decode cX5_hashTo 173 = .ok (.ldc2_w 62, 3) := by decide +kernel
theorem dX5_hashTo_176 : decode cX5_hashTo 176 = .ok (.land, 1) := by decide +kernel
theorem dX5_hashTo_177 : decode cX5_hashTo 177 = .ok (.l2i, 1) := by decide +kernel
theorem dX5_hashTo_178 : decode cX5_hashTo 178 = .ok (.iastore, 1) := by decide +kernel
theorem dX5_hashTo_179 : decode cX5_hashTo 179 = .ok (.iinc 6 1, 3) := by decide +kernel
theorem dX5_hashTo_182 : decode cX5_hashTo 182 = .ok (.goto (-42), 3) := by decide +kernel
theorem dX5_hashTo_185 : decode cX5_hashTo 185 = .ok (.aload_n 0, 1) := by decide +kernel
theorem dX5_hashTo_186 : decode cX5_hashTo 186 = .ok (.iconst 0, 1) := by decide +kernel
theorem dX5_hashTo_187 : decode cX5_hashTo 187 = .ok (.putfield 106, 3) := by decide +kernel
theorem dX5_hashTo_190 : decode cX5_hashTo 190 = .ok (.return_, 1) := by decide +kernel
theorem dX5_put_0 : decode cX5_put 0 = .ok (.iconst 0, 1) := by decide +kernel
theorem dX5_put_1 : decode cX5_put 1 = .ok (.istore 4, 2) := by decide +kernel
theorem dX5_put_3 : decode cX5_put 3 = .ok (.iload 4, 2) := by decide +kernel
theorem dX5_put_5 : decode cX5_put 5 = .ok (.iload_n 1, 1) := by decide +kernel
theorem dX5_put_6 : decode cX5_put 6 = .ok (.if_icmp .ge 40, 3) := by decide +kernel
theorem dX5_put_9 : decode cX5_put 9 = .ok (.aload_n 0, 1) := by decide +kernel
theorem dX5_put_10 : decode cX5_put 10 = .ok (.getfield 19, 3) := by decide +kernel
theorem dX5_put_13 : decode cX5_put 13 = .ok (.aload_n 0, 1) := by decide +kernel
theorem dX5_put_14 : decode cX5_put 14 = .ok (.getfield 109, 3) := by decide +kernel
theorem dX5_put_17 : decode cX5_put 17 = .ok (.lload_n 2, 1) := by decide +kernel
theorem dX5_put_18 : decode cX5_put 18 = .ok (.bipush 8, 2) := by decide +kernel
theorem dX5_put_20 : decode cX5_put 20 = .ok (.iload 4, 2) := by decide +kernel
theorem dX5_put_22 : decode cX5_put 22 = .ok (.imul, 1) := by decide +kernel
theorem dX5_put_23 : decode cX5_put 23 = .ok (.lshr, 1) := by decide +kernel
theorem dX5_put_24 : decode cX5_put 24 = .ok (.ldc2_w 62, 3) := by decide +kernel
theorem dX5_put_27 : decode cX5_put 27 = .ok (.land, 1) := by decide +kernel
theorem dX5_put_28 : decode cX5_put 28 = .ok (.l2i, 1) := by decide +kernel
theorem dX5_put_29 : decode cX5_put 29 = .ok (.iastore, 1) := by decide +kernel
theorem dX5_put_30 : decode cX5_put 30 = .ok (.aload_n 0, 1) := by decide +kernel
theorem dX5_put_31 : decode cX5_put 31 = .ok (.dup, 1) := by decide +kernel
theorem dX5_put_32 : decode cX5_put 32 = .ok (.getfield 109, 3) := by decide +kernel
theorem dX5_put_35 : decode cX5_put 35 = .ok (.iconst 1, 1) := by decide +kernel
theorem dX5_put_36 : decode cX5_put 36 = .ok (.iadd, 1) := by decide +kernel
theorem dX5_put_37 : decode cX5_put 37 = .ok (.putfield 109, 3) := by decide +kernel
theorem dX5_put_40 : decode cX5_put 40 = .ok (.iinc 4 1, 3) := by decide +kernel
theorem dX5_put_43 : decode cX5_put 43 = .ok (.goto (-40), 3) := by decide +kernel
theorem dX5_put_46 : decode cX5_put 46 = .ok (.return_, 1) := by decide +kernel
theorem dX5_putRegister_0 : decode cX5_putRegister 0 = .ok (.iconst 0, 1) := by decide +kernel
theorem dX5_putRegister_1 : decode cX5_putRegister 1 = .ok (.istore_n 2, 1) := by decide +kernel
theorem dX5_putRegister_2 : decode cX5_putRegister 2 = .ok (.iload_n 2, 1) := by decide +kernel
theorem dX5_putRegister_3 : decode cX5_putRegister 3 = .ok (.aload_n 0, 1) := by decide +kernel
theorem dX5_putRegister_4 : decode cX5_putRegister 4 = .ok (.getfield 7, 3) := by decide +kernel
theorem dX5_putRegister_7 : decode cX5_putRegister 7 = .ok (.iload_n 1, 1) := by decide +kernel
theorem dX5_putRegister_8 : decode cX5_putRegister 8 = .ok (.iaload, 1) := by decide +kernel
theorem dX5_putRegister_9 : decode cX5_putRegister 9 = .ok (.if_icmp .ge 40, 3) := by decide +kernel
theorem dX5_putRegister_12 : decode cX5_putRegister 12 = .ok (.aload_n 0, 1) := by decide +kernel
theorem dX5_putRegister_13 : decode cX5_putRegister 13 = .ok (.getfield 19, 3) := by decide +kernel
theorem dX5_putRegister_16 : decode cX5_putRegister 16 = .ok (.aload_n 0, 1) := by decide +kernel
theorem dX5_putRegister_17 : decode cX5_putRegister 17 = .ok (.getfield 109, 3) := by decide +kernel
theorem dX5_putRegister_20 : decode cX5_putRegister 20 = .ok (.aload_n 0, 1) := by decide +kernel
theorem dX5_putRegister_21 : decode cX5_putRegister 21 = .ok (.getfield 13, 3) := by decide +kernel
theorem dX5_putRegister_24 : decode cX5_putRegister 24 = .ok (.sipush 200, 3) := by decide +kernel
theorem dX5_putRegister_27 : decode cX5_putRegister 27 = .ok (.iload_n 1, 1) := by decide +kernel
theorem dX5_putRegister_28 : decode cX5_putRegister 28 = .ok (.imul, 1) := by decide +kernel
theorem dX5_putRegister_29 : decode cX5_putRegister 29 = .ok (.iload_n 2, 1) := by decide +kernel
theorem dX5_putRegister_30 : decode cX5_putRegister 30 = .ok (.iadd, 1) := by decide +kernel
theorem dX5_putRegister_31 : decode cX5_putRegister 31 = .ok (.iaload, 1) := by decide +kernel
theorem dX5_putRegister_32 : decode cX5_putRegister 32 = .ok (.iastore, 1) := by decide +kernel
theorem dX5_putRegister_33 : decode cX5_putRegister 33 = .ok (.aload_n 0, 1) := by decide +kernel
theorem dX5_putRegister_34 : decode cX5_putRegister 34 = .ok (.dup, 1) := by decide +kernel
theorem dX5_putRegister_35 : decode cX5_putRegister 35 = .ok (.getfield 109, 3) := by decide +kernel
theorem dX5_putRegister_38 : decode cX5_putRegister 38 = .ok (.iconst 1, 1) := by decide +kernel
theorem dX5_putRegister_39 : decode cX5_putRegister 39 = .ok (.iadd, 1) := by decide +kernel
theorem dX5_putRegister_40 : decode cX5_putRegister 40 = .ok (.putfield 109, 3) := by decide +kernel
theorem dX5_putRegister_43 : decode cX5_putRegister 43 = .ok (.iinc 2 1, 3) := by decide +kernel
theorem dX5_putRegister_46 : decode cX5_putRegister 46 = .ok (.goto (-44), 3) := by decide +kernel
theorem dX5_putRegister_49 : decode cX5_putRegister 49 = .ok (.return_, 1) := by decide +kernel
