theorem dX5_begin_0 : decode cX5_begin 0 = .ok (.aload_n 0, 1) := by decide +kernel
theorem dX5_begin_1 : decode cX5_begin 1 = .ok (.iconst 0, 1) := by decide +kernel
theorem dX5_begin_2 : decode cX5_begin 2 = .ok (.putfield 50, 3) := by decide +kernel
theorem dX5_begin_5 : decode cX5_begin 5 = .ok (.iload_n 1, 1) := by decide +kernel
theorem dX5_begin_6 : decode cX5_begin 6 = .ok (.iconst 0, 1) := by decide +kernel
theorem dX5_begin_7 : decode cX5_begin 7 = .ok (.iconst 2, 1) := by decide +kernel
theorem dX5_begin_8 : decode cX5_begin 8 = .ok (.invokestatic 54, 3) := by decide +kernel
theorem dX5_begin_11 : decode cX5_begin 11 = .ok (.ifCond .eq 92, 3) := by decide +kernel
theorem dX5_begin_14 : decode cX5_begin 14 = .ok (.iload_n 2, 1) := by decide +kernel
theorem dX5_begin_15 : decode cX5_begin 15 = .ok (.iconst 1, 1) := by decide +kernel
theorem dX5_begin_16 : decode cX5_begin 16 = .ok (.iconst 4, 1) := by decide +kernel
theorem dX5_begin_17 : decode cX5_begin 17 = .ok (.invokestatic 54, 3) := by decide +kernel
theorem dX5_begin_20 : decode cX5_begin 20 = .ok (.ifCond .eq 83, 3) := by decide +kernel
theorem dX5_begin_23 : decode cX5_begin 23 = .ok (.iload_n 3, 1) := by decide +kernel
theorem dX5_begin_24 : decode cX5_begin 24 = .ok (.iconst 1, 1) := by decide +kernel
theorem dX5_begin_25 : decode cX5_begin 25 = .ok (.iconst 5, 1) := by decide +kernel
theorem dX5_begin_26 : decode cX5_begin 26 = .ok (.invokestatic 54, 3) := by decide +kernel
theorem dX5_begin_29 : decode cX5_begin 29 = .ok (.ifCond .eq 74, 3) := by decide +kernel
theorem dX5_begin_32 : decode cX5_begin 32 = .ok (.iload 4, 2) := by decide +kernel
theorem dX5_begin_34 : decode cX5_begin 34 = .ok (.bipush 8, 2) := by decide +kernel
theorem dX5_begin_36 : decode cX5_begin 36 = .ok (.iload_n 2, 1) := by decide +kernel
theorem dX5_begin_37 : decode cX5_begin 37 = .ok (.imul, 1) := by decide +kernel
theorem dX5_begin_38 : decode cX5_begin 38 = .ok (.sipush 128, 3) := by decide +kernel
theorem dX5_begin_41 : decode cX5_begin 41 = .ok (.invokestatic 54, 3) := by decide +kernel
theorem dX5_begin_44 : decode cX5_begin 44 = .ok (.ifCond .eq 59, 3) := by decide +kernel
theorem dX5_begin_47 : decode cX5_begin 47 = .ok (.iload 5, 2) := by decide +kernel
theorem dX5_begin_49 : decode cX5_begin 49 = .ok (.iconst 4, 1) := by decide +kernel
theorem dX5_begin_50 : decode cX5_begin 50 = .ok (.sipush 128, 3) := by decide +kernel
theorem dX5_begin_53 : decode cX5_begin 53 = .ok (.invokestatic 54, 3) := by decide +kernel
theorem dX5_begin_56 : decode cX5_begin 56 = .ok (.ifCond .eq 47, 3) := by decide +kernel
theorem dX5_begin_59 : decode cX5_begin 59 = .ok (.iload 6, 2) := by decide +kernel
theorem dX5_begin_61 : decode cX5_begin 61 = .ok (.invokestatic 58, 3) := by decide +kernel
theorem dX5_begin_64 : decode cX5_begin 64 = .ok (.ifCond .eq 39, 3) := by decide +kernel
theorem dX5_begin_67 : decode cX5_begin 67 = .ok (.iload 7, 2) := by decide +kernel
theorem dX5_begin_69 : decode cX5_begin 69 = .ok (.invokestatic 58, 3) := by decide +kernel
theorem dX5_begin_72 : decode cX5_begin 72 = .ok (.ifCond .eq 31, 3) := by decide +kernel
theorem dX5_begin_75 : decode cX5_begin 75 = .ok (.iload 8, 2) := by decide +kernel
theorem dX5_begin_77 : decode cX5_begin 77 = .ok (.invokestatic 158, 3) := by decide +kernel
theorem dX5_begin_80 : decode cX5_begin 80 = .ok (.ifCond .eq 23, 3) := by decide +kernel
theorem dX5_begin_83 : decode cX5_begin 83 = .ok (.iload 9, 2) := by decide +kernel
theorem dX5_begin_85 : decode cX5_begin 85 = .ok (.invokestatic 158, 3) := by decide +kernel
theorem dX5_begin_88 : decode cX5_begin 88 = .ok (.ifCond .eq 15, 3) := by decide +kernel
theorem dX5_begin_91 : decode cX5_begin 91 = .ok (.aload_n 0, 1) := by decide +kernel
theorem dX5_begin_92 : decode cX5_begin 92 = .ok (.getfield 7, 3) := by decide +kernel
theorem dX5_begin_95 : decode cX5_begin 95 = .ok (.iload 7, 2) := by decide +kernel
theorem dX5_begin_97 : decode cX5_begin 97 = .ok (.iaload, 1) := by decide +kernel
theorem dX5_begin_98 : decode cX5_begin 98 = .ok (.bipush 8, 2) := by decide +kernel
theorem dX5_begin_100 : decode cX5_begin 100 = .ok (.if_icmp .ge 6, 3) := by decide +kernel
theorem dX5_begin_103 : decode cX5_begin 103 = .ok (.bipush (-2), 2) := by decide +kernel
theorem dX5_begin_105 : decode cX5_begin 105 = .ok (.ireturn, 1) := by decide +kernel
theorem dX5_begin_106 : decode cX5_begin 106 = .ok (.aload_n 0, 1) := by decide +kernel
theorem dX5_begin_107 : decode cX5_begin 107 = .ok (.iconst 1, 1) := by decide +kernel
theorem dX5_begin_108 : decode cX5_begin 108 = .ok (.putfield 161, 3) := by decide +kernel
theorem dX5_begin_111 : decode cX5_begin 111 = .ok (.aload_n 0, 1) := by decide +kernel
theorem dX5_begin_112 : decode cX5_begin 112 = .ok (.iload_n 1, 1) := by decide +kernel
theorem dX5_begin_113 : decode cX5_begin 113 = .ok (.putfield 165, 3) := by decide +kernel
theorem dX5_begin_116 : decode cX5_begin 116 = .ok (.aload_n 0, 1) := by decide +kernel
theorem dX5_begin_117 : decode cX5_begin 117 = .ok (.iload_n 2, 1) := by decide +kernel
theorem dX5_begin_118 : decode cX5_begin 118 = .ok (.putfield 168, 3) := by decide +kernel
theorem dX5_begin_121 : decode cX5_begin 121 = .ok (.aload_n 0, 1) := by decide +kernel
theorem dX5_begin_122 : decode cX5_begin 122 = .ok (.iload_n 3, 1) := by decide +kernel
theorem dX5_begin_123 : decode cX5_begin 123 = .ok (.putfield 171, 3) := by decide +kernel
theorem dX5_begin_126 : decode cX5_begin 126 = .ok (.aload_n 0, 1) := by decide +kernel
theorem dX5_begin_127 : decode cX5_begin 127 = .ok (.iload 5, 2) := by decide +kernel
theorem dX5_begin_129 : decode cX5_begin 129 = .ok (.putfield 174, 3) := by decide +kernel
theorem dX5_begin_132 : decode cX5_begin 132 = .ok (.aload_n 0, 1) := by decide +kernel
theorem dX5_begin_133 : decode cX5_begin 133 = .ok (.iload 4, 2) := by decide +kernel
theorem dX5_begin_135 : decode cX5_begin 135 = .ok (.iconst 4, 1) := by decide +kernel
theorem dX5_begin_136 : decode cX5_begin 136 = .ok (.iload_n 2, 1) := by decide +kernel
theorem dX5_begin_137 : decode cX5_begin 137 = .ok (.imul, 1) := by decide +kernel
theorem dX5_begin_138 : decode cX5_begin 138 = .ok (.idiv, 1) := by decide +kernel
theorem dX5_begin_139 : decode cX5_begin 139 = .ok (.putfield 177, 3) := by decide +kernel
theorem dX5_begin_142 : decode cX5_begin 142 = .ok (.aload_n 0, 1) := by decide +kernel
theorem dX5_begin_143 : decode cX5_begin 143 = .ok (.iconst 0, 1) := by decide +kernel
theorem dX5_begin_144 : decode cX5_begin 144 = .ok (.putfield 180, 3) := by decide +kernel
theorem dX5_begin_147 : decode cX5_begin 147 = .ok (.aload_n 0, 1) := by decide +kernel
theorem dX5_begin_148 : decode cX5_begin 148 = .ok (.iconst 0, 1) := by decide +kernel
theorem dX5_begin_149 : decode cX5_begin 149 = .ok (.putfield 109, 3) := by decide +kernel
theorem dX5_begin_152 : decode cX5_begin 152 = .ok (.aload_n 0, 1) := by decide +kernel
theorem dX5_begin_153 : decode cX5_begin 153 = .ok (.iconst 4, 1) := by decide +kernel
theorem dX5_begin_154 : decode cX5_begin 154 = .ok (.aload_n 0, 1) := by decide +kernel
theorem dX5_begin_155 : decode cX5_begin 155 = .ok (.getfield 168, 3) := by decide +kernel
theorem dX5_begin_158 : decode cX5_begin 158 = .ok (.i2l, 1) := by decide +kernel
theorem dX5_begin_159 : decode cX5_begin 159 = .ok (.invokevirtual 144, 3) := by decide +kernel
theorem dX5_begin_162 : decode cX5_begin 162 = .ok (.aload_n 0, 1) := by decide +kernel
theorem dX5_begin_163 : decode cX5_begin 163 = .ok (.iconst 4, 1) := by decide +kernel
theorem dX5_begin_164 : decode cX5_begin 164 = .ok (.aload_n 0, 1) := by decide +kernel
theorem dX5_begin_165 : decode cX5_begin 165 = .ok (.getfield 174, 3) := by decide +kernel
theorem dX5_begin_168 : decode cX5_begin 168 = .ok (.i2l, 1) := by decide +kernel
theorem dX5_begin_169 : decode cX5_begin 169 = .ok (.invokevirtual 144, 3) := by decide +kernel
theorem dX5_begin_172 : decode cX5_begin 172 = .ok (.aload_n 0, 1) := by decide +kernel
theorem dX5_begin_173 : decode cX5_begin 173 = .ok (.iconst 4, 1) := by decide +kernel
theorem dX5_begin_174 : decode cX5_begin 174 = .ok (.iload 4, 2) := by decide +kernel
theorem dX5_begin_176 : decode cX5_begin 176 = .ok (.i2l, 1) := by decide +kernel
theorem dX5_begin_177 : decode cX5_begin 177 = .ok (.invokevirtual 144, 3) := by decide +kernel
theorem dX5_begin_180 : decode cX5_begin 180 = .ok (.aload_n 0, 1) := by decide +kernel
theorem dX5_begin_181 : decode cX5_begin 181 = .ok (.iconst 4, 1) := by decide +kernel
theorem dX5_begin_182 : decode cX5_begin 182 = .ok (.aload_n 0, 1) := by decide +kernel
theorem dX5_begin_183 : decode cX5_begin 183 = .ok (.getfield 171, 3) := by decide +kernel
theorem dX5_begin_186 : decode cX5_begin 186 = .ok (.i2l, 1) := by decide +kernel
theorem dX5_begin_187 : decode cX5_begin 187 = .ok (.invokevirtual 144, 3) := by decide +kernel
theorem dX5_begin_190 : decode cX5_begin 190 = .ok (.aload_n 0, 1) := by decide +kernel
theorem dX5_begin_191 : decode cX5_begin 191 = .ok (.iconst 4, 1) := by decide +kernel
theorem dX5_begin_192 : decode cX5_begin 192 = .ok (.ldc2_w 183, 3) := by decide +kernel
theorem dX5_begin_195 : decode cX5_begin 195 = .ok (.invokevirtual 144, 3) := by decide +kernel
theorem dX5_begin_198 : decode cX5_begin 198 = .ok (.aload_n 0, 1) := by decide +kernel
theorem dX5_begin_199 : decode cX5_begin 199 = .ok (.iconst 4, 1) := by decide +kernel
theorem dX5_begin_200 : decode cX5_begin 200 = .ok (.aload_n 0, 1) := by decide +kernel
theorem dX5_begin_201 : decode cX5_begin 201 = .ok (.getfield 165, 3) := by decide +kernel
theorem dX5_begin_204 : decode cX5_begin 204 = .ok (.i2l, 1) := by decide +kernel
theorem dX5_begin_205 : decode cX5_begin 205 = .ok (.invokevirtual 144, 3) := by decide +kernel
theorem dX5_begin_208 : decode cX5_begin 208 = .ok (.aload_n 0, 1) := by decide +kernel
theorem dX5_begin_209 : decode cX5_begin 209 = .ok (.iload 6, 2) := by decide +kernel
theorem dX5_begin_211 : decode cX5_begin 211 = .ok (.invokevirtual 185, 3) := by decide +kernel
theorem dX5_begin_214 : decode cX5_begin 214 = .ok (.aload_n 0, 1) := by decide +kernel
theorem dX5_begin_215 : decode cX5_begin 215 = .ok (.iload 7, 2) := by decide +kernel
theorem dX5_begin_217 : decode cX5_begin 217 = .ok (.invokevirtual 185, 3) := by decide +kernel
theorem dX5_begin_220 : decode cX5_begin 220 = .ok (.aload_n 0, 1) := by decide +kernel
theorem dX5_begin_221 : decode cX5_begin 221 = .ok (.iload 8, 2) := by decide +kernel
theorem dX5_begin_223 : decode cX5_begin 223 = .ok (.invokevirtual 185, 3) := by decide +kernel
theorem dX5_begin_226 : decode cX5_begin 226 = .ok (.aload_n 0, 1) := by decide +kernel
theorem dX5_begin_227 : decode cX5_begin 227 = .ok (.iload 9, 2) := by decide +kernel
theorem dX5_begin_229 : decode cX5_begin 229 = .ok (.invokevirtual 185, 3) := by decide +kernel
theorem dX5_begin_232 : decode cX5_begin 232 = .ok (.aload_n 0, 1) := by decide +kernel
theorem dX5_begin_233 : decode cX5_begin 233 = .ok (.iconst 0, 1) := by decide +kernel
theorem dX5_begin_234 : decode cX5_begin 234 = .ok (.bipush 64, 2) := by decide +kernel
theorem dX5_begin_236 : decode cX5_begin 236 = .ok (.invokevirtual 140, 3) := by decide +kernel
theorem dX5_begin_239 : decode cX5_begin 239 = .ok (.iconst 0, 1) := by decide +kernel
theorem dX5_begin_240 : decode cX5_begin 240 = .ok (.istore 10, 2) := by decide +kernel
theorem dX5_begin_242 : decode cX5_begin 242 = .ok (.iload 10, 2) := by decide +kernel
theorem dX5_begin_244 : decode cX5_begin 244 = .ok (.bipush 64, 2) := by decide +kernel
theorem dX5_begin_246 : decode cX5_begin 246 = .ok (.if_icmp .ge 24, 3) := by decide +kernel
theorem dX5_begin_249 : decode cX5_begin 249 = .ok (.aload_n 0, 1) := by decide +kernel
theorem dX5_begin_250 : decode cX5_begin 250 = .ok (.getfield 47, 3) := by decide +kernel
theorem dX5_begin_253 : decode cX5_begin 253 = .ok (.iload 10, 2) := by decide +kernel
theorem dX5_begin_255 : decode cX5_begin 255 = .ok (.aload_n 0, 1) := by decide +kernel
theorem dX5_begin_256 : decode cX5_begin 256 = .ok (.getfield 32, 3) := by decide +kernel
theorem dX5_begin_259 : decode cX5_begin 259 = .ok (.iload 10, 2) := by decide +kernel
theorem dX5_begin_261 : decode cX5_begin 261 = .ok (.iaload, 1) := by decide +kernel
theorem dX5_begin_262 : decode cX5_begin 262 = .ok (.i2l, 1) := by decide +kernel
theorem dX5_begin_263 : decode cX5_begin 263 = .ok (.lastore, 1) := by decide +kernel
theorem dX5_begin_264 : decode cX5_begin 264 = .ok (.iinc 10 1, 3) := by decide +kernel
theorem dX5_begin_267 : decode cX5_begin 267 = .ok (.goto (-25), 3) := by decide +kernel
theorem dX5_begin_270 : decode cX5_begin 270 = .ok (.iconst 0, 1) := by decide +kernel
theorem dX5_begin_271 : decode cX5_begin 271 = .ok (.istore 10, 2) := by decide +kernel
theorem dX5_begin_273 : decode cX5_begin 273 = .ok (.iload 10, 2) := by decide +kernel
theorem dX5_begin_275 : decode cX5_begin 275 = .ok (.sipush 16384, 3) := by decide +kernel
theorem dX5_begin_278 : decode cX5_begin 278 = .ok (.if_icmp .ge 17, 3) := by decide +kernel
theorem dX5_begin_281 : decode cX5_begin 281 = .ok (.aload_n 0, 1) := by decide +kernel
theorem dX5_begin_282 : decode cX5_begin 282 = .ok (.getfield 35, 3) := by decide +kernel
theorem dX5_begin_285 : decode cX5_begin 285 = .ok (.iload 10, 2) := by decide +kernel
theorem dX5_begin_287 : decode cX5_begin 287 = .ok (.lconst 0, 1) := by decide +kernel
theorem dX5_begin_288 : decode cX5_begin 288 = .ok (.lastore, 1) := by decide +kernel
theorem dX5_begin_289 : decode cX5_begin 289 = .ok (.iinc 10 1, 3) := by decide +kernel
theorem dX5_begin_292 : decode cX5_begin 292 = .ok (.goto (-19), 3) := by decide +kernel
theorem dX5_begin_295 : decode cX5_begin 295 = .ok (.iconst 0, 1) := by decide +kernel
theorem dX5_begin_296 : decode cX5_begin 296 = .ok (.istore 10, 2) := by decide +kernel
theorem dX5_begin_298 : decode cX5_begin 298 = .ok (.iload 10, 2) := by decide +kernel
theorem dX5_begin_300 : decode cX5_begin 300 = .ok (.aload_n 0, 1) := by decide +kernel
theorem dX5_begin_301 : decode cX5_begin 301 = .ok (.getfield 168, 3) := by decide +kernel
theorem dX5_begin_304 : decode cX5_begin 304 = .ok (.if_icmp .ge 144, 3) := by decide +kernel
theorem dX5_begin_307 : decode cX5_begin 307 = .ok (.iconst 0, 1) := by decide +kernel
theorem dX5_begin_308 : decode cX5_begin 308 = .ok (.istore 11, 2) := by decide +kernel
theorem dX5_begin_310 : decode cX5_begin 310 = .ok (.iload 11, 2) := by decide +kernel
theorem dX5_begin_312 : decode cX5_begin 312 = .ok (.iconst 2, 1) := by decide +kernel
theorem dX5_begin_313 : decode cX5_begin 313 = .ok (.if_icmp .ge 129, 3) := by decide +kernel
theorem dX5_begin_316 : decode cX5_begin 316 = .ok (.aload_n 0, 1) := by decide +kernel
theorem dX5_begin_317 : decode cX5_begin 317 = .ok (.iconst 4, 1) := by decide +kernel
theorem dX5_begin_318 : decode cX5_begin 318 = .ok (.putfield 109, 3) := by decide +kernel
theorem dX5_begin_321 : decode cX5_begin 321 = .ok (.iconst 0, 1) := by decide +kernel
theorem dX5_begin_322 : decode cX5_begin 322 = .ok (.istore 12, 2) := by decide +kernel
theorem dX5_begin_324 : decode cX5_begin 324 = .ok (.iload 12, 2) := by decide +kernel
theorem dX5_begin_326 : decode cX5_begin 326 = .ok (.bipush 64, 2) := by decide +kernel
theorem dX5_begin_328 : decode cX5_begin 328 = .ok (.if_icmp .ge 21, 3) := by decide +kernel
theorem dX5_begin_331 : decode cX5_begin 331 = .ok (.aload_n 0, 1) := by decide +kernel
theorem dX5_begin_332 : decode cX5_begin 332 = .ok (.iconst 1, 1) := by decide +kernel
theorem dX5_begin_333 : decode cX5_begin 333 = .ok (.aload_n 0, 1) := by decide +kernel
theorem dX5_begin_334 : decode cX5_begin 334 = .ok (.getfield 47, 3) := by decide +kernel
theorem dX5_begin_337 : decode cX5_begin 337 = .ok (.iload 12, 2) := by decide +kernel
theorem dX5_begin_339 : decode cX5_begin 339 = .ok (.laload, 1) := by decide +kernel
theorem dX5_begin_340 : decode cX5_begin 340 = .ok (.invokevirtual 144, 3) := by decide +kernel
theorem dX5_begin_343 : decode cX5_begin 343 = .ok (.iinc 12 1, 3) := by decide +kernel
theorem dX5_begin_346 : decode cX5_begin 346 = .ok (.goto (-22), 3) := by decide +kernel
theorem dX5_begin_349 : decode cX5_begin 349 = .ok (.aload_n 0, 1) := by decide +kernel
theorem dX5_begin_350 : decode cX5_begin 350 = .ok (.iconst 4, 1) := by decide +kernel
theorem dX5_begin_351 : decode cX5_begin 351 = .ok (.iload 11, 2) := by decide +kernel
theorem dX5_begin_353 : decode cX5_begin 353 = .ok (.i2l, 1) := by decide +kernel
theorem dX5_begin_354 : decode cX5_begin 354 = .ok (.invokevirtual 144, 3) := by decide +kernel
theorem dX5_begin_357 : decode cX5_begin 357 = .ok (.aload_n 0, 1) := by decide +kernel
theorem dX5_begin_358 : decode cX5_begin 358 = .ok (.iconst 4, 1) := by decide +kernel
theorem dX5_begin_359 : decode cX5_begin 359 = .ok (.iload 10, 2) := by decide +kernel
theorem dX5_begin_361 : decode cX5_begin 361 = .ok (.i2l, 1) := by decide +kernel
theorem dX5_begin_362 : decode cX5_begin 362 = .ok (.invokevirtual 144, 3) := by decide +kernel
theorem dX5_begin_365 : decode cX5_begin 365 = .ok (.aload_n 0, 1) := by decide +kernel
theorem dX5_begin_366 : decode cX5_begin 366 = .ok (.sipush 1024, 3) := by decide +kernel
theorem dX5_begin_369 : decode cX5_begin 369 = .ok (.invokevirtual 155, 3) := by decide +kernel
theorem dX5_begin_372 : decode cX5_begin 372 = .ok (.iconst 0, 1) := by decide +kernel
theorem dX5_begin_373 : decode cX5_begin 373 = .ok (.istore 12, 2) := by decide +kernel
theorem dX5_begin_375 : decode cX5_begin 375 = .ok (.iload 12, 2) := by decide +kernel
theorem dX5_begin_377 : decode cX5_begin 377 = .ok (.sipush 1024, 3) := by decide +kernel
theorem dX5_begin_380 : decode cX5_begin 380 = .ok (.if_icmp .ge 56, 3) := by decide +kernel
theorem dX5_begin_383 : decode cX5_begin 383 = .ok (.aload_n 0, 1) := by decide +kernel
theorem dX5_begin_384 : decode cX5_begin 384 = .ok (.getfield 35, 3) := by decide +kernel
theorem dX5_begin_387 : decode cX5_begin 387 = .ok (.sipush 128, 3) := by decide +kernel
theorem dX5_begin_390 : decode cX5_begin 390 = .ok (.iconst 4, 1) := by decide +kernel
theorem dX5_begin_391 : decode cX5_begin 391 = .ok (.aload_n 0, 1) := by decide +kernel
theorem dX5_begin_392 : decode cX5_begin 392 = .ok (.getfield 177, 3) := by decide +kernel
theorem dX5_begin_395 : decode cX5_begin 395 = .ok (.imul, 1) := by decide +kernel
theorem dX5_begin_396 : decode cX5_begin 396 = .ok (.iload 10, 2) := by decide +kernel
theorem dX5_begin_398 : decode cX5_begin 398 = .ok (.imul, 1) := by decide +kernel
theorem dX5_begin_399 : decode cX5_begin 399 = .ok (.iload 11, 2) := by decide +kernel
theorem dX5_begin_401 : decode cX5_begin 401 = .ok (.iadd, 1) := by decide +kernel
theorem dX5_begin_402 : decode cX5_begin 402 = .ok (.imul, 1) := by decide +kernel
theorem dX5_begin_403 : decode cX5_begin 403 = .ok (.iload 12, 2) := by decide +kernel
theorem dX5_begin_405 : decode cX5_begin 405 = .ok (.bipush 8, 2) := by decide +kernel
theorem dX5_begin_407 : decode cX5_begin 407 = .ok (.idiv, 1) := by decide +kernel
theorem dX5_begin_408 : decode cX5_begin 408 = .ok (.iadd, 1) := by decide +kernel
theorem dX5_begin_409 : decode cX5_begin 409 = .ok (.dup2, 1) := by decide +kernel
theorem dX5_begin_410 : decode cX5_begin 410 = .ok (.laload, 1) := by decide +kernel
theorem dX5_begin_411 : decode cX5_begin 411 = .ok (.aload_n 0, 1) := by decide +kernel
theorem dX5_begin_412 : decode cX5_begin 412 = .ok (.getfield 32, 3) := by decide +kernel
theorem dX5_begin_415 : decode cX5_begin 415 = .ok (.iload 12, 2) := by decide +kernel
theorem dX5_begin_417 : decode cX5_begin 417 = .ok (.iaload, 1) := by decide +kernel
theorem dX5_begin_418 : decode cX5_begin 418 = .ok (.i2l, 1) := by decide +kernel
theorem dX5_begin_419 : decode cX5_begin 419 = .ok (.bipush 8, 2) := by decide +kernel
theorem dX5_begin_421 : decode cX5_begin 421 = .ok (.iload 12, 2) := by decide +kernel
theorem dX5_begin_423 : decode cX5_begin 423 = .ok (.bipush 8, 2) := by decide +kernel
theorem dX5_begin_425 : decode cX5_begin 425 = .ok (.irem, 1) := by decide +kernel
theorem dX5_begin_426 : decode cX5_begin 426 = .ok (.imul, 1) := by decide +kernel
theorem dX5_begin_427 : decode cX5_begin 427 = .ok (.lshl, 1) := by decide +kernel
theorem dX5_begin_428 : decode cX5_begin 428 = .ok (.lor, 1) := by decide +kernel
theorem dX5_begin_429 : decode cX5_begin 429 = .ok (.lastore, 1) := by decide +kernel
theorem dX5_begin_430 : decode cX5_begin 430 = .ok (.iinc 12 1, 3) := by decide +kernel
theorem dX5_begin_433 : decode cX5_begin 433 = .ok (.goto (-58), 3) := by decide +kernel
theorem dX5_begin_436 : decode cX5_begin 436 = .ok (.iinc 11 1, 3) := by decide +kernel
theorem dX5_begin_439 : decode cX5_begin 439 = .ok (.goto (-129), 3) := by decide +kernel
theorem dX5_begin_442 : decode cX5_begin 442 = .ok (.iinc 10 1, 3) := by decide +kernel
theorem dX5_begin_445 : decode cX5_begin 445 = .ok (.goto (-147), 3) := by decide +kernel
theorem dX5_begin_448 : decode cX5_begin 448 = .ok (.iconst 4, 1) := by decide +kernel
theorem dX5_begin_449 : decode cX5_begin 449 = .ok (.aload_n 0, 1) := by decide +kernel
theorem dX5_begin_450 : decode cX5_begin 450 = .ok (.getfield 177, 3) := by decide +kernel
theorem dX5_begin_453 : decode cX5_begin 453 = .ok (.imul, 1) := by decide +kernel
theorem dX5_begin_454 : decode cX5_begin 454 = .ok (.aload_n 0, 1) := by decide +kernel
theorem dX5_begin_455 : decode cX5_begin 455 = .ok (.getfield 168, 3) := by decide +kernel
theorem dX5_begin_458 : decode cX5_begin 458 = .ok (.imul, 1) := by decide +kernel
theorem dX5_begin_459 : decode cX5_begin 459 = .ok (.ireturn, 1) := by decide +kernel
theorem dX5_half_0 : decode cX5_half 0 = .ok (.lload_n 0, 1) := by decide +kernel
theorem dX5_half_1 : decode cX5_half 1 = .ok (.ldc2_w 188, 3) := by decide +kernel
theorem dX5_half_4 : decode cX5_half 4 = .ok (.land, 1) := by decide +kernel
theorem dX5_half_5 : decode cX5_half 5 = .ok (.lreturn, 1) := by decide +kernel
theorem dX5_hard_0 : decode cX5_hard 0 = .ok (.aload_n 0, 1) := by decide +kernel
theorem dX5_hard_1 : decode cX5_hard 1 = .ok (.getfield 44, 3) := by decide +kernel
theorem dX5_hard_4 : decode cX5_hard 4 = .ok (.iload_n 1, 1) := by decide +kernel
theorem dX5_hard_5 : decode cX5_hard 5 = .ok (.laload, 1) := by decide +kernel
theorem dX5_hard_6 : decode cX5_hard 6 = .ok (.lstore 5, 2) := by decide +kernel
theorem dX5_hard_8 : decode cX5_hard 8 = .ok (.aload_n 0, 1) := by decide +kernel
theorem dX5_hard_9 : decode cX5_hard 9 = .ok (.getfield 44, 3) := by decide +kernel
theorem dX5_hard_12 : decode cX5_hard 12 = .ok (.iload_n 2, 1) := by decide +kernel
theorem dX5_hard_13 : decode cX5_hard 13 = .ok (.laload, 1) := by decide +kernel
theorem dX5_hard_14 : decode cX5_hard 14 = .ok (.lstore 7, 2) := by decide +kernel
theorem dX5_hard_16 : decode cX5_hard 16 = .ok (.aload_n 0, 1) := by decide +kernel
theorem dX5_hard_17 : decode cX5_hard 17 = .ok (.getfield 44, 3) := by decide +kernel
theorem dX5_hard_20 : decode cX5_hard 20 = .ok (.iload_n 3, 1) := by decide +kernel
theorem dX5_hard_21 : decode cX5_hard 21 = .ok (.laload, 1) := by decide +kernel
theorem dX5_hard_22 : decode cX5_hard 22 = .ok (.lstore 9, 2) := by decide +kernel
theorem dX5_hard_24 : decode cX5_hard 24 = .ok (.aload_n 0, 1) := by decide +kernel
theorem dX5_hard_25 : decode cX5_hard 25 = .ok (.getfield 44, 3) := by decide +kernel
theorem dX5_hard_28 : decode cX5_hard 28 = .ok (.iload 4, 2) := by decide +kernel
theorem dX5_hard_30 : decode cX5_hard 30 = .ok (.laload, 1) := by decide +kernel
theorem dX5_hard_31 : decode cX5_hard 31 = .ok (.lstore 11, 2) := by decide +kernel
theorem dX5_hard_33 : decode cX5_hard 33 = .ok (.lload 5, 2) := by decide +kernel
theorem dX5_hard_35 : decode cX5_hard 35 = .ok (.lload 7, 2) := by decide +kernel
theorem dX5_hard_37 : decode cX5_hard 37 = .ok (.ldc2_w 190, 3) := by decide +kernel
theorem dX5_hard_40 : decode cX5_hard 40 = .ok (.lload 5, 2) := by decide +kernel
theorem dX5_hard_42 : decode cX5_hard 42 = .ok (.invokestatic 192, 3) := by decide +kernel
theorem dX5_hard_45 : decode cX5_hard 45 = .ok (.lmul, 1) := by decide +kernel
theorem dX5_hard_46 : decode cX5_hard 46 = .ok (.lload 7, 2) := by decide +kernel
theorem dX5_hard_48 : decode cX5_hard 48 = .ok (.invokestatic 192, 3) := by decide +kernel
theorem dX5_hard_51 : decode cX5_hard 51 = .ok (.lmul, 1) := by decide +kernel
theorem dX5_hard_52 : decode cX5_hard 52 = .ok (.ladd, 1) := by decide +kernel
theorem dX5_hard_53 : decode cX5_hard 53 = .ok (.ladd, 1) := by decide +kernel
theorem dX5_hard_54 : decode cX5_hard 54 = .ok (.lstore 5, 2) := by decide +kernel
theorem dX5_hard_56 : decode cX5_hard 56 = .ok (.lload 11, 2) := by decide +kernel
theorem dX5_hard_58 : decode cX5_hard 58 = .ok (.lload 5, 2) := by decide +kernel
theorem dX5_hard_60 : decode cX5_hard 60 = .ok (.lxor, 1) := by decide +kernel
theorem dX5_hard_61 : decode cX5_hard 61 = .ok (.bipush 32, 2) := by decide +kernel
theorem dX5_hard_63 : decode cX5_hard 63 = .ok (.invokestatic 100, 3) := by decide +kernel
theorem dX5_hard_66 : decode cX5_hard 66 = .ok (.lstore 11, 2) := by decide +kernel
theorem dX5_hard_68 : decode cX5_hard 68 = .ok (.lload 9, 2) := by decide +kernel
theorem dX5_hard_70 : decode cX5_hard 70 = .ok (.lload 11, 2) := by decide +kernel
theorem dX5_hard_72 : decode cX5_hard 72 = .ok (.ldc2_w 190, 3) := by decide +kernel
theorem dX5_hard_75 : decode cX5_hard 75 = .ok (.lload 9, 2) := by decide +kernel
theorem dX5_hard_77 : decode cX5_hard 77 = .ok (.invokestatic 192, 3) := by decide +kernel
theorem dX5_hard_80 : decode cX5_hard 80 = .ok (.lmul, 1) := by decide +kernel
theorem dX5_hard_81 : decode cX5_hard 81 = .ok (.lload 11, 2) := by decide +kernel
theorem dX5_hard_83 : decode cX5_hard 83 = .ok (.invokestatic 192, 3) := by decide +kernel
theorem dX5_hard_86 : decode cX5_hard 86 = .ok (.lmul, 1) := by decide +kernel
theorem dX5_hard_87 : decode cX5_hard 87 = .ok (.ladd, 1) := by decide +kernel
theorem dX5_hard_88 : decode cX5_hard 88 = .ok (.ladd, 1) := by decide +kernel
theorem dX5_hard_89 : decode cX5_hard 89 = .ok (.lstore 9, 2) := by decide +kernel
theorem dX5_hard_91 : decode cX5_hard 91 = .ok (.lload 7, 2) := by decide +kernel
theorem dX5_hard_93 : decode cX5_hard 93 = .ok (.lload 9, 2) := by decide +kernel
theorem dX5_hard_95 : decode cX5_hard 95 = .ok (.lxor, 1) := by decide +kernel
theorem dX5_hard_96 : decode cX5_hard 96 = .ok (.bipush 24, 2) := by decide +kernel
theorem dX5_hard_98 : decode cX5_hard 98 = .ok (.invokestatic 100, 3) := by decide +kernel
theorem dX5_hard_101 : decode cX5_hard 101 = .ok (.lstore 7, 2) := by decide +kernel
theorem dX5_hard_103 : decode cX5_hard 103 = .ok (.lload 5, 2) := by decide +kernel
theorem dX5_hard_105 : decode cX5_hard 105 = .ok (.lload 7, 2) := by decide +kernel
theorem dX5_hard_107 : decode cX5_hard 107 = .ok (.ldc2_w 190, 3) := by decide +kernel
theorem dX5_hard_110 : decode cX5_hard 110 = .ok (.lload 5, 2) := by decide +kernel
theorem dX5_hard_112 : decode cX5_hard 112 = .ok (.invokestatic 192, 3) := by decide +kernel
theorem dX5_hard_115 : decode cX5_hard 115 = .ok (.lmul, 1) := by decide +kernel
theorem dX5_hard_116 : decode cX5_hard 116 = .ok (.lload 7, 2) := by decide +kernel
theorem dX5_hard_118 : decode cX5_hard 118 = .ok (.invokestatic 192, 3) := by decide +kernel
theorem dX5_hard_121 : decode cX5_hard 121 = .ok (.lmul, 1) := by decide +kernel
theorem dX5_hard_122 : decode cX5_hard 122 = .ok (.ladd, 1) := by decide +kernel
theorem dX5_hard_123 : decode cX5_hard 123 = .ok (.ladd, 1) := by decide +kernel
theorem dX5_hard_124 : decode cX5_hard 124 = .ok (.lstore 5, 2) := by decide +kernel
theorem dX5_hard_126 : decode cX5_hard 126 = .ok (.lload 11, 2) := by decide +kernel
theorem dX5_hard_128 : decode cX5_hard 128 = .ok (.lload 5, 2) := by decide +kernel
theorem dX5_hard_130 : decode cX5_hard 130 = .ok (.lxor, 1) := by decide +kernel
theorem dX5_hard_131 : decode cX5_hard 131 = .ok (.bipush 16, 2) := by decide +kernel
theorem dX5_hard_133 : decode cX5_hard 133 = .ok (.invokestatic 100, 3) := by decide +kernel
theorem dX5_hard_136 : decode cX5_hard 136 = .ok (.lstore 11, 2) := by decide +kernel
theorem dX5_hard_138 : decode cX5_hard 138 = .ok (.lload 9, 2) := by decide +kernel
theorem dX5_hard_140 : decode cX5_hard 140 = .ok (.lload 11, 2) := by decide +kernel
theorem dX5_hard_142 : decode cX5_hard 142 = .ok (.ldc2_w 190, 3) := by decide +kernel
theorem dX5_hard_145 : decode cX5_hard 145 = .ok (.lload 9, 2) := by decide +kernel
theorem dX5_hard_147 : decode cX5_hard 147 = .ok (.invokestatic 192, 3) := by decide +kernel
theorem dX5_hard_150 : decode cX5_hard 150 = .ok (.lmul, 1) := by decide +kernel
theorem dX5_hard_151 : decode cX5_hard 151 = .ok (.lload 11, 2) := by decide +kernel
theorem dX5_hard_153 : decode cX5_hard 153 = .ok (.invokestatic 192, 3) := by decide +kernel
theorem dX5_hard_156 : decode cX5_hard 156 = .ok (.lmul, 1) := by decide +kernel
theorem dX5_hard_157 : decode cX5_hard 157 = .ok (.ladd, 1) := by decide +kernel
theorem dX5_hard_158 : decode cX5_hard 158 = .ok (.ladd, 1) := by decide +kernel
theorem dX5_hard_159 : decode cX5_hard 159 = .ok (.lstore 9, 2) := by decide +kernel
theorem dX5_hard_161 : decode cX5_hard 161 = .ok (.lload 7, 2) := by decide +kernel
theorem dX5_hard_163 : decode cX5_hard 163 = .ok (.lload 9, 2) := by decide +kernel
theorem dX5_hard_165 : decode cX5_hard 165 = .ok (.lxor, 1) := by decide +kernel
theorem dX5_hard_166 : decode cX5_hard 166 = .ok (.bipush 63, 2) := by decide +kernel
theorem dX5_hard_168 : decode cX5_hard 168 = .ok (.invokestatic 100, 3) := by decide +kernel
theorem dX5_hard_171 : decode cX5_hard 171 = .ok (.lstore 7, 2) := by decide +kernel
theorem dX5_hard_173 : decode cX5_hard 173 = .ok (.aload_n 0, 1) := by decide +kernel
theorem dX5_hard_174 : decode cX5_hard 174 = .ok (.getfield 44, 3) := by decide +kernel
theorem dX5_hard_177 : decode cX5_hard 177 = .ok (.iload_n 1, 1) := by decide +kernel
theorem dX5_hard_178 : decode cX5_hard 178 = .ok (.lload 5, 2) := by decide +kernel
theorem dX5_hard_180 : decode cX5_hard 180 = .ok (.lastore, 1) := by decide +kernel
theorem dX5_hard_181 : decode cX5_hard 181 = .ok (.aload_n 0, 1) := by decide +kernel
theorem dX5_hard_182 : decode cX5_hard 182 = .ok (.getfield 44, 3) := by decide +kernel
theorem dX5_hard_185 : decode cX5_hard 185 = .ok (.iload_n 2, 1) := by decide +kernel
theorem dX5_hard_186 : decode cX5_hard 186 = .ok (.lload 7, 2) := by decide +kernel
theorem dX5_hard_188 : decode cX5_hard 188 = .ok (.lastore, 1) := by decide +kernel
theorem dX5_hard_189 : decode cX5_hard 189 = .ok (.aload_n 0, 1) := by decide +kernel
theorem dX5_hard_190 : decode cX5_hard 190 = .ok (.getfield 44, 3) := by decide +kernel
theorem dX5_hard_193 : decode cX5_hard 193 = .ok (.iload_n 3, 1) := by decide +kernel
theorem dX5_hard_194 : decode cX5_hard 194 = .ok (.lload 9, 2) := by decide +kernel
theorem dX5_hard_196 : decode cX5_hard 196 = .ok (.lastore, 1) := by decide +kernel
theorem dX5_hard_197 : decode cX5_hard 197 = .ok (.aload_n 0, 1) := by decide +kernel
theorem dX5_hard_198 : decode cX5_hard 198 = .ok (.getfield 44, 3) := by decide +kernel
theorem dX5_hard_201 : decode cX5_hard 201 = .ok (.iload 4, 2) := by decide +kernel
theorem dX5_hard_203 : decode cX5_hard 203 = .ok (.lload 11, 2) := by decide +kernel
theorem dX5_hard_205 : decode cX5_hard 205 = .ok (.lastore, 1) := by decide +kernel
theorem dX5_hard_206 : decode cX5_hard 206 = .ok (.return_, 1) := by decide +kernel
theorem dX5_spot_0 : decode cX5_spot 0 = .ok (.iload_n 1, 1) := by decide +kernel
theorem dX5_spot_1 : decode cX5_spot 1 = .ok (.ifCond .eq 18, 3) := by decide +kernel
theorem dX5_spot_4 : decode cX5_spot 4 = .ok (.iload_n 0, 1) := by decide +kernel
theorem dX5_spot_5 : decode cX5_spot 5 = .ok (.bipush 16, 2) := by decide +kernel
theorem dX5_spot_7 : decode cX5_spot 7 = .ok (.iload_n 2, 1) := by decide +kernel
theorem dX5_spot_8 : decode cX5_spot 8 = .ok (.iconst 2, 1) := by decide +kernel
theorem dX5_spot_9 : decode cX5_spot 9 = .ok (.idiv, 1) := by decide +kernel
theorem dX5_spot_10 : decode cX5_spot 10 = .ok (.imul, 1) := by decide +kernel
theorem dX5_spot_11 : decode cX5_spot 11 = .ok (.iadd, 1) := by decide +kernel
theorem dX5_spot_12 : decode cX5_spot 12 = .ok (.iload_n 2, 1) := by decide +kernel
theorem dX5_spot_13 : decode cX5_spot 13 = .ok (.iconst 2, 1) := by decide +kernel
theorem dX5_spot_14 : decode cX5_spot 14 = .ok (.irem, 1) := by decide +kernel
theorem dX5_spot_15 : decode cX5_spot 15 = .ok (.iadd, 1) := by decide +kernel
theorem dX5_spot_16 : decode cX5_spot 16 = .ok (.goto 6, 3) := by decide +kernel
theorem dX5_spot_19 : decode cX5_spot 19 = .ok (.iload_n 0, 1) := by decide +kernel
theorem dX5_spot_20 : decode cX5_spot 20 = .ok (.iload_n 2, 1) := by decide +kernel
theorem dX5_spot_21 : decode cX5_spot 21 = .ok (.iadd, 1) := by decide +kernel
theorem dX5_spot_22 : decode cX5_spot 22 = .ok (.ireturn, 1) := by decide +kernel
theorem dX5_quarter_0 : decode cX5_quarter 0 = .ok (.aload_n 0, 1) := by decide +kernel
theorem dX5_quarter_1 : decode cX5_quarter 1 = .ok (.iload_n 1, 1) := by decide +kernel
theorem dX5_quarter_2 : decode cX5_quarter 2 = .ok (.iload_n 2, 1) := by decide +kernel
theorem dX5_quarter_3 : decode cX5_quarter 3 = .ok (.iload_n 3, 1) := by decide +kernel
theorem dX5_quarter_4 : decode cX5_quarter 4 = .ok (.invokestatic 196, 3) := by decide +kernel
theorem dX5_quarter_7 : decode cX5_quarter 7 = .ok (.iload_n 1, 1) := by decide +kernel
theorem dX5_quarter_8 : decode cX5_quarter 8 = .ok (.iload_n 2, 1) := by decide +kernel
theorem dX5_quarter_9 : decode cX5_quarter 9 = .ok (.iload 4, 2) := by decide +kernel
theorem dX5_quarter_11 : decode cX5_quarter 11 = .ok (.invokestatic 196, 3) := by decide +kernel
theorem dX5_quarter_14 : decode cX5_quarter 14 = .ok (.iload_n 1, 1) := by decide +kernel
theorem dX5_quarter_15 : decode cX5_quarter 15 = .ok (.iload_n 2, 1) := by decide +kernel
theorem dX5_quarter_16 : decode cX5_quarter 16 = .ok (.iload 5, 2) := by decide +kernel
theorem dX5_quarter_18 : decode cX5_quarter 18 = .ok (.invokestatic 196, 3) := by decide +kernel
theorem dX5_quarter_21 : decode cX5_quarter 21 = .ok (.iload_n 1, 1) := by decide +kernel
theorem dX5_quarter_22 : decode cX5_quarter 22 = .ok (.iload_n 2, 1) := by decide +kernel
theorem dX5_quarter_23 : decode cX5_quarter 23 = .ok (.iload 6, 2) := by decide +kernel
theorem dX5_quarter_25 : decode cX5_quarter 25 = .ok (.invokestatic 196, 3) := by decide +kernel
theorem dX5_quarter_28 : decode cX5_quarter 28 = .ok (.invokevirtual 200, 3) := by decide +kernel
theorem dX5_quarter_31 : decode cX5_quarter 31 = .ok (.return_, 1) := by decide +kernel
