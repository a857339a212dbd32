theorem dX5_segment_0 : decode cX5_segment 0 = .ok (.iconst 4, 1) := by decide +kernel
theorem dX5_segment_1 : decode cX5_segment 1 = .ok (.aload_n 0, 1) := by decide +kernel
theorem dX5_segment_2 : decode cX5_segment 2 = .ok (.getfield 177, 3) := by decide +kernel
theorem dX5_segment_5 : decode cX5_segment 5 = .ok (.imul, 1) := by decide +kernel
theorem dX5_segment_6 : decode cX5_segment 6 = .ok (.istore 4, 2) := by decide +kernel
theorem dX5_segment_8 : decode cX5_segment 8 = .ok (.aload_n 0, 1) := by decide +kernel
theorem dX5_segment_9 : decode cX5_segment 9 = .ok (.getfield 165, 3) := by decide +kernel
theorem dX5_segment_12 : decode cX5_segment 12 = .ok (.iconst 1, 1) := by decide +kernel
theorem dX5_segment_13 : decode cX5_segment 13 = .ok (.if_icmp .eq 20, 3) := by decide +kernel
theorem dX5_segment_16 : decode cX5_segment 16 = .ok (.aload_n 0, 1) := by decide +kernel
theorem dX5_segment_17 : decode cX5_segment 17 = .ok (.getfield 165, 3) := by decide +kernel
theorem dX5_segment_20 : decode cX5_segment 20 = .ok (.iconst 2, 1) := by decide +kernel
theorem dX5_segment_21 : decode cX5_segment 21 = .ok (.if_icmp .ne 16, 3) := by decide +kernel
theorem dX5_segment_24 : decode cX5_segment 24 = .ok (.iload_n 1, 1) := by decide +kernel
theorem dX5_segment_25 : decode cX5_segment 25 = .ok (.ifCond .ne 12, 3) := by decide +kernel
theorem dX5_segment_28 : decode cX5_segment 28 = .ok (.iload_n 2, 1) := by decide +kernel
theorem dX5_segment_29 : decode cX5_segment 29 = .ok (.iconst 2, 1) := by decide +kernel
theorem dX5_segment_30 : decode cX5_segment 30 = .ok (.if_icmp .ge 7, 3) := by decide +kernel
theorem dX5_segment_33 : decode cX5_segment 33 = .ok (.iconst 1, 1) := by decide +kernel
theorem dX5_segment_34 : decode cX5_segment 34 = .ok (.goto 4, 3) := by decide +kernel
theorem dX5_segment_37 : decode cX5_segment 37 = .ok (.iconst 0, 1) := by decide +kernel
theorem dX5_segment_38 : decode cX5_segment 38 = .ok (.istore 5, 2) := by decide +kernel
theorem dX5_segment_40 : decode cX5_segment 40 = .ok (.iload_n 1, 1) := by decide +kernel
theorem dX5_segment_41 : decode cX5_segment 41 = .ok (.ifCond .ne 11, 3) := by decide +kernel
theorem dX5_segment_44 : decode cX5_segment 44 = .ok (.iload_n 2, 1) := by decide +kernel
theorem dX5_segment_45 : decode cX5_segment 45 = .ok (.ifCond .ne 7, 3) := by decide +kernel
theorem dX5_segment_48 : decode cX5_segment 48 = .ok (.iconst 2, 1) := by decide +kernel
theorem dX5_segment_49 : decode cX5_segment 49 = .ok (.goto 4, 3) := by decide +kernel
theorem dX5_segment_52 : decode cX5_segment 52 = .ok (.iconst 0, 1) := by decide +kernel
theorem dX5_segment_53 : decode cX5_segment 53 = .ok (.istore 6, 2) := by decide +kernel
theorem dX5_segment_55 : decode cX5_segment 55 = .ok (.iload 6, 2) := by decide +kernel
theorem dX5_segment_57 : decode cX5_segment 57 = .ok (.aload_n 0, 1) := by decide +kernel
theorem dX5_segment_58 : decode cX5_segment 58 = .ok (.getfield 177, 3) := by decide +kernel
theorem dX5_segment_61 : decode cX5_segment 61 = .ok (.if_icmp .ge 239, 3) := by decide +kernel
theorem dX5_segment_64 : decode cX5_segment 64 = .ok (.aload_n 0, 1) := by decide +kernel
theorem dX5_segment_65 : decode cX5_segment 65 = .ok (.getfield 177, 3) := by decide +kernel
theorem dX5_segment_68 : decode cX5_segment 68 = .ok (.iload_n 2, 1) := by decide +kernel
theorem dX5_segment_69 : decode cX5_segment 69 = .ok (.imul, 1) := by decide +kernel
theorem dX5_segment_70 : decode cX5_segment 70 = .ok (.iload 6, 2) := by decide +kernel
theorem dX5_segment_72 : decode cX5_segment 72 = .ok (.iadd, 1) := by decide +kernel
theorem dX5_segment_73 : decode cX5_segment 73 = .ok (.istore 7, 2) := by decide +kernel
theorem dX5_segment_75 : decode cX5_segment 75 = .ok (.iload 4, 2) := by decide +kernel
theorem dX5_segment_77 : decode cX5_segment 77 = .ok (.iload_n 3, 1) := by decide +kernel
theorem dX5_segment_78 : decode cX5_segment 78 = .ok (.imul, 1) := by decide +kernel
theorem dX5_segment_79 : decode cX5_segment 79 = .ok (.iload 7, 2) := by decide +kernel
theorem dX5_segment_81 : decode cX5_segment 81 = .ok (.ifCond .ne 10, 3) := by decide +kernel
theorem dX5_segment_84 : decode cX5_segment 84 = .ok (.iload 4, 2) := by decide +kernel
theorem dX5_segment_86 : decode cX5_segment 86 = .ok (.iconst 1, 1) := by decide +kernel
theorem dX5_segment_87 : decode cX5_segment 87 = .ok (.isub, 1) := by decide +kernel
theorem dX5_segment_88 : decode cX5_segment 88 = .ok (.goto 7, 3) := by decide +kernel
theorem dX5_segment_91 : decode cX5_segment 91 = .ok (.iload 7, 2) := by decide +kernel
theorem dX5_segment_93 : decode cX5_segment 93 = .ok (.iconst 1, 1) := by decide +kernel
theorem dX5_segment_94 : decode cX5_segment 94 = .ok (.isub, 1) := by decide +kernel
theorem dX5_segment_95 : decode cX5_segment 95 = .ok (.iadd, 1) := by decide +kernel
theorem dX5_segment_96 : decode cX5_segment 96 = .ok (.istore 8, 2) := by decide +kernel
theorem dX5_segment_98 : decode cX5_segment 98 = .ok (.iload 5, 2) := by decide +kernel
theorem dX5_segment_100 : decode cX5_segment 100 = .ok (.ifCond .eq 18, 3) := by decide +kernel
theorem dX5_segment_103 : decode cX5_segment 103 = .ok (.aload_n 0, 1) := by decide +kernel
theorem dX5_segment_104 : decode cX5_segment 104 = .ok (.iload_n 1, 1) := by decide +kernel
theorem dX5_segment_105 : decode cX5_segment 105 = .ok (.iload_n 3, 1) := by decide +kernel
theorem dX5_segment_106 : decode cX5_segment 106 = .ok (.iload_n 2, 1) := by decide +kernel
theorem dX5_segment_107 : decode cX5_segment 107 = .ok (.iconst 1, 1) := by decide +kernel
theorem dX5_segment_108 : decode cX5_segment 108 = .ok (.iload 6, 2) := by decide +kernel
theorem dX5_segment_110 : decode cX5_segment 110 = .ok (.sipush 128, 3) := by decide +kernel
theorem dX5_segment_113 : decode cX5_segment 113 = .ok (.idiv, 1) := by decide +kernel
theorem dX5_segment_114 : decode cX5_segment 114 = .ok (.iadd, 1) := by decide +kernel
theorem dX5_segment_115 : decode cX5_segment 115 = .ok (.invokevirtual 217, 3) := by decide +kernel
theorem dX5_segment_118 : decode cX5_segment 118 = .ok (.aload_n 0, 1) := by decide +kernel
theorem dX5_segment_119 : decode cX5_segment 119 = .ok (.iload_n 1, 1) := by decide +kernel
theorem dX5_segment_120 : decode cX5_segment 120 = .ok (.iload_n 3, 1) := by decide +kernel
theorem dX5_segment_121 : decode cX5_segment 121 = .ok (.iload_n 2, 1) := by decide +kernel
theorem dX5_segment_122 : decode cX5_segment 122 = .ok (.iload 6, 2) := by decide +kernel
theorem dX5_segment_124 : decode cX5_segment 124 = .ok (.iload 5, 2) := by decide +kernel
theorem dX5_segment_126 : decode cX5_segment 126 = .ok (.ifCond .eq 17, 3) := by decide +kernel
theorem dX5_segment_129 : decode cX5_segment 129 = .ok (.aload_n 0, 1) := by decide +kernel
theorem dX5_segment_130 : decode cX5_segment 130 = .ok (.getfield 47, 3) := by decide +kernel
theorem dX5_segment_133 : decode cX5_segment 133 = .ok (.iload 6, 2) := by decide +kernel
theorem dX5_segment_135 : decode cX5_segment 135 = .ok (.sipush 128, 3) := by decide +kernel
theorem dX5_segment_138 : decode cX5_segment 138 = .ok (.irem, 1) := by decide +kernel
theorem dX5_segment_139 : decode cX5_segment 139 = .ok (.laload, 1) := by decide +kernel
theorem dX5_segment_140 : decode cX5_segment 140 = .ok (.goto 14, 3) := by decide +kernel
theorem dX5_segment_143 : decode cX5_segment 143 = .ok (.aload_n 0, 1) := by decide +kernel
theorem dX5_segment_144 : decode cX5_segment 144 = .ok (.getfield 35, 3) := by decide +kernel
theorem dX5_segment_147 : decode cX5_segment 147 = .ok (.sipush 128, 3) := by decide +kernel
theorem dX5_segment_150 : decode cX5_segment 150 = .ok (.iload 8, 2) := by decide +kernel
theorem dX5_segment_152 : decode cX5_segment 152 = .ok (.imul, 1) := by decide +kernel
theorem dX5_segment_153 : decode cX5_segment 153 = .ok (.laload, 1) := by decide +kernel
theorem dX5_segment_154 : decode cX5_segment 154 = .ok (.invokevirtual 220, 3) := by decide +kernel
theorem dX5_segment_157 : decode cX5_segment 157 = .ok (.istore 9, 2) := by decide +kernel
theorem dX5_segment_159 : decode cX5_segment 159 = .ok (.iconst 0, 1) := by decide +kernel
theorem dX5_segment_160 : decode cX5_segment 160 = .ok (.istore 10, 2) := by decide +kernel
theorem dX5_segment_162 : decode cX5_segment 162 = .ok (.iload 10, 2) := by decide +kernel
theorem dX5_segment_164 : decode cX5_segment 164 = .ok (.sipush 128, 3) := by decide +kernel
theorem dX5_segment_167 : decode cX5_segment 167 = .ok (.if_icmp .ge 51, 3) := by decide +kernel
theorem dX5_segment_170 : decode cX5_segment 170 = .ok (.aload_n 0, 1) := by decide +kernel
theorem dX5_segment_171 : decode cX5_segment 171 = .ok (.getfield 38, 3) := by decide +kernel
theorem dX5_segment_174 : decode cX5_segment 174 = .ok (.iload 10, 2) := by decide +kernel
theorem dX5_segment_176 : decode cX5_segment 176 = .ok (.aload_n 0, 1) := by decide +kernel
theorem dX5_segment_177 : decode cX5_segment 177 = .ok (.getfield 35, 3) := by decide +kernel
theorem dX5_segment_180 : decode cX5_segment 180 = .ok (.sipush 128, 3) := by decide +kernel
theorem dX5_segment_183 : decode cX5_segment 183 = .ok (.iload 8, 2) := by decide +kernel
theorem dX5_segment_185 : decode cX5_segment 185 = .ok (.imul, 1) := by decide +kernel
theorem dX5_segment_186 : decode cX5_segment 186 = .ok (.iload 10, 2) := by decide +kernel
theorem dX5_segment_188 : decode cX5_segment 188 = .ok (.iadd, 1) := by decide +kernel
theorem dX5_segment_189 : decode cX5_segment 189 = .ok (.laload, 1) := by decide +kernel
theorem dX5_segment_190 : decode cX5_segment 190 = .ok (.lastore, 1) := by decide +kernel
theorem dX5_segment_191 : decode cX5_segment 191 = .ok (.aload_n 0, 1) := by decide +kernel
theorem dX5_segment_192 : decode cX5_segment 192 = .ok (.getfield 41, 3) := by decide +kernel
theorem dX5_segment_195 : decode cX5_segment 195 = .ok (.iload 10, 2) := by decide +kernel
theorem dX5_segment_197 : decode cX5_segment 197 = .ok (.aload_n 0, 1) := by decide +kernel
theorem dX5_segment_198 : decode cX5_segment 198 = .ok (.getfield 35, 3) := by decide +kernel
theorem dX5_segment_201 : decode cX5_segment 201 = .ok (.sipush 128, 3) := by decide +kernel
theorem dX5_segment_204 : decode cX5_segment 204 = .ok (.iload 9, 2) := by decide +kernel
theorem dX5_segment_206 : decode cX5_segment 206 = .ok (.imul, 1) := by decide +kernel
theorem dX5_segment_207 : decode cX5_segment 207 = .ok (.iload 10, 2) := by decide +kernel
theorem dX5_segment_209 : decode cX5_segment 209 = .ok (.iadd, 1) := by decide +kernel
theorem dX5_segment_210 : decode cX5_segment 210 = .ok (.laload, 1) := by decide +kernel
theorem dX5_segment_211 : decode cX5_segment 211 = .ok (.lastore, 1) := by decide +kernel
theorem dX5_segment_212 : decode cX5_segment 212 = .ok (.iinc 10 1, 3) := by decide +kernel
theorem dX5_segment_215 : decode cX5_segment 215 = .ok (.goto (-53), 3) := by decide +kernel
theorem dX5_segment_218 : decode cX5_segment 218 = .ok (.aload_n 0, 1) := by decide +kernel
theorem dX5_segment_219 : decode cX5_segment 219 = .ok (.invokevirtual 214, 3) := by decide +kernel
theorem dX5_segment_222 : decode cX5_segment 222 = .ok (.sipush 128, 3) := by decide +kernel
theorem dX5_segment_225 : decode cX5_segment 225 = .ok (.iload 4, 2) := by decide +kernel
theorem dX5_segment_227 : decode cX5_segment 227 = .ok (.iload_n 3, 1) := by decide +kernel
theorem dX5_segment_228 : decode cX5_segment 228 = .ok (.imul, 1) := by decide +kernel
theorem dX5_segment_229 : decode cX5_segment 229 = .ok (.iload 7, 2) := by decide +kernel
theorem dX5_segment_231 : decode cX5_segment 231 = .ok (.iadd, 1) := by decide +kernel
theorem dX5_segment_232 : decode cX5_segment 232 = .ok (.imul, 1) := by decide +kernel
theorem dX5_segment_233 : decode cX5_segment 233 = .ok (.istore 10, 2) := by decide +kernel
theorem dX5_segment_235 : decode cX5_segment 235 = .ok (.iconst 0, 1) := by decide +kernel
theorem dX5_segment_236 : decode cX5_segment 236 = .ok (.istore 11, 2) := by decide +kernel
theorem dX5_segment_238 : decode cX5_segment 238 = .ok (.iload 11, 2) := by decide +kernel
theorem dX5_segment_240 : decode cX5_segment 240 = .ok (.sipush 128, 3) := by decide +kernel
theorem dX5_segment_243 : decode cX5_segment 243 = .ok (.if_icmp .ge 51, 3) := by decide +kernel
theorem dX5_segment_246 : decode cX5_segment 246 = .ok (.aload_n 0, 1) := by decide +kernel
theorem dX5_segment_247 : decode cX5_segment 247 = .ok (.getfield 35, 3) := by decide +kernel
theorem dX5_segment_250 : decode cX5_segment 250 = .ok (.iload 10, 2) := by decide +kernel
theorem dX5_segment_252 : decode cX5_segment 252 = .ok (.iload 11, 2) := by decide +kernel
theorem dX5_segment_254 : decode cX5_segment 254 = .ok (.iadd, 1) := by decide +kernel
theorem dX5_segment_255 : decode cX5_segment 255 = .ok (.iload_n 1, 1) := by decide +kernel
theorem dX5_segment_256 : decode cX5_segment 256 = .ok (.ifCond .ne 13, 3) := by decide +kernel
theorem dX5_segment_259 : decode cX5_segment 259 = .ok (.aload_n 0, 1) := by decide +kernel
theorem dX5_segment_260 : decode cX5_segment 260 = .ok (.getfield 44, 3) := by decide +kernel
theorem dX5_segment_263 : decode cX5_segment 263 = .ok (.iload 11, 2) := by decide +kernel
theorem dX5_segment_265 : decode cX5_segment 265 = .ok (.laload, 1) := by decide +kernel
theorem dX5_segment_266 : decode cX5_segment 266 = .ok (.goto 21, 3) := by decide +kernel
theorem dX5_segment_269 : decode cX5_segment 269 = .ok (.aload_n 0, 1) := by decide +kernel
theorem dX5_segment_270 : decode cX5_segment 270 = .ok (.getfield 35, 3) := by decide +kernel
theorem dX5_segment_273 : decode cX5_segment 273 = .ok (.iload 10, 2) := by decide +kernel
theorem dX5_segment_275 : decode cX5_segment 275 = .ok (.iload 11, 2) := by decide +kernel
theorem dX5_segment_277 : decode cX5_segment 277 = .ok (.iadd, 1) := by decide +kernel
theorem dX5_segment_278 : decode cX5_segment 278 = .ok (.laload, 1) := by decide +kernel
theorem dX5_segment_279 : decode cX5_segment 279 = .ok (.aload_n 0, 1) := by decide +kernel
theorem dX5_segment_280 : decode cX5_segment 280 = .ok (.getfield 44, 3) := by decide +kernel
theorem dX5_segment_283 : decode cX5_segment 283 = .ok (.iload 11, 2) := by decide +kernel
theorem dX5_segment_285 : decode cX5_segment 285 = .ok (.laload, 1) := by decide +kernel
theorem dX5_segment_286 : decode cX5_segment 286 = .ok (.lxor, 1) := by decide +kernel
theorem dX5_segment_287 : decode cX5_segment 287 = .ok (.lastore, 1) := by decide +kernel
theorem dX5_segment_288 : decode cX5_segment 288 = .ok (.iinc 11 1, 3) := by decide +kernel
theorem dX5_segment_291 : decode cX5_segment 291 = .ok (.goto (-53), 3) := by decide +kernel
theorem dX5_segment_294 : decode cX5_segment 294 = .ok (.iinc 6 1, 3) := by decide +kernel
theorem dX5_segment_297 : decode cX5_segment 297 = .ok (.goto (-242), 3) := by decide +kernel
theorem dX5_segment_300 : decode cX5_segment 300 = .ok (.return_, 1) := by decide +kernel
theorem dX5_fillSome_0 : decode cX5_fillSome 0 = .ok (.iconst 0, 1) := by decide +kernel
theorem dX5_fillSome_1 : decode cX5_fillSome 1 = .ok (.istore_n 2, 1) := by decide +kernel
theorem dX5_fillSome_2 : decode cX5_fillSome 2 = .ok (.iload_n 2, 1) := by decide +kernel
theorem dX5_fillSome_3 : decode cX5_fillSome 3 = .ok (.iload_n 1, 1) := by decide +kernel
theorem dX5_fillSome_4 : decode cX5_fillSome 4 = .ok (.if_icmp .ge 72, 3) := by decide +kernel
theorem dX5_fillSome_7 : decode cX5_fillSome 7 = .ok (.aload_n 0, 1) := by decide +kernel
theorem dX5_fillSome_8 : decode cX5_fillSome 8 = .ok (.getfield 180, 3) := by decide +kernel
theorem dX5_fillSome_11 : decode cX5_fillSome 11 = .ok (.iconst 4, 1) := by decide +kernel
theorem dX5_fillSome_12 : decode cX5_fillSome 12 = .ok (.aload_n 0, 1) := by decide +kernel
theorem dX5_fillSome_13 : decode cX5_fillSome 13 = .ok (.getfield 168, 3) := by decide +kernel
theorem dX5_fillSome_16 : decode cX5_fillSome 16 = .ok (.imul, 1) := by decide +kernel
theorem dX5_fillSome_17 : decode cX5_fillSome 17 = .ok (.aload_n 0, 1) := by decide +kernel
theorem dX5_fillSome_18 : decode cX5_fillSome 18 = .ok (.getfield 171, 3) := by decide +kernel
theorem dX5_fillSome_21 : decode cX5_fillSome 21 = .ok (.imul, 1) := by decide +kernel
theorem dX5_fillSome_22 : decode cX5_fillSome 22 = .ok (.if_icmp .ge 54, 3) := by decide +kernel
theorem dX5_fillSome_25 : decode cX5_fillSome 25 = .ok (.aload_n 0, 1) := by decide +kernel
theorem dX5_fillSome_26 : decode cX5_fillSome 26 = .ok (.aload_n 0, 1) := by decide +kernel
theorem dX5_fillSome_27 : decode cX5_fillSome 27 = .ok (.getfield 180, 3) := by decide +kernel
theorem dX5_fillSome_30 : decode cX5_fillSome 30 = .ok (.iconst 4, 1) := by decide +kernel
theorem dX5_fillSome_31 : decode cX5_fillSome 31 = .ok (.aload_n 0, 1) := by decide +kernel
theorem dX5_fillSome_32 : decode cX5_fillSome 32 = .ok (.getfield 168, 3) := by decide +kernel
theorem dX5_fillSome_35 : decode cX5_fillSome 35 = .ok (.imul, 1) := by decide +kernel
theorem dX5_fillSome_36 : decode cX5_fillSome 36 = .ok (.idiv, 1) := by decide +kernel
theorem dX5_fillSome_37 : decode cX5_fillSome 37 = .ok (.aload_n 0, 1) := by decide +kernel
theorem dX5_fillSome_38 : decode cX5_fillSome 38 = .ok (.getfield 180, 3) := by decide +kernel
theorem dX5_fillSome_41 : decode cX5_fillSome 41 = .ok (.aload_n 0, 1) := by decide +kernel
theorem dX5_fillSome_42 : decode cX5_fillSome 42 = .ok (.getfield 168, 3) := by decide +kernel
theorem dX5_fillSome_45 : decode cX5_fillSome 45 = .ok (.idiv, 1) := by decide +kernel
theorem dX5_fillSome_46 : decode cX5_fillSome 46 = .ok (.iconst 4, 1) := by decide +kernel
theorem dX5_fillSome_47 : decode cX5_fillSome 47 = .ok (.irem, 1) := by decide +kernel
theorem dX5_fillSome_48 : decode cX5_fillSome 48 = .ok (.aload_n 0, 1) := by decide +kernel
theorem dX5_fillSome_49 : decode cX5_fillSome 49 = .ok (.getfield 180, 3) := by decide +kernel
theorem dX5_fillSome_52 : decode cX5_fillSome 52 = .ok (.aload_n 0, 1) := by decide +kernel
theorem dX5_fillSome_53 : decode cX5_fillSome 53 = .ok (.getfield 168, 3) := by decide +kernel
theorem dX5_fillSome_56 : decode cX5_fillSome 56 = .ok (.irem, 1) := by decide +kernel
theorem dX5_fillSome_57 : decode cX5_fillSome 57 = .ok (.invokevirtual 224, 3) := by decide +kernel
theorem dX5_fillSome_60 : decode cX5_fillSome 60 = .ok (.aload_n 0, 1) := by decide +kernel
theorem dX5_fillSome_61 : decode cX5_fillSome 61 = .ok (.dup, 1) := by decide +kernel
theorem dX5_fillSome_62 : decode cX5_fillSome 62 = .ok (.getfield 180, 3) := by decide +kernel
theorem dX5_fillSome_65 : decode cX5_fillSome 65 = .ok (.iconst 1, 1) := by decide +kernel
theorem dX5_fillSome_66 : decode cX5_fillSome 66 = .ok (.iadd, 1) := by decide +kernel
theorem dX5_fillSome_67 : decode cX5_fillSome 67 = .ok (.putfield 180, 3) := by decide +kernel
theorem dX5_fillSome_70 : decode cX5_fillSome 70 = .ok (.iinc 2 1, 3) := by decide +kernel
theorem dX5_fillSome_73 : decode cX5_fillSome 73 = .ok (.goto (-71), 3) := by decide +kernel
theorem dX5_fillSome_76 : decode cX5_fillSome 76 = .ok (.iload_n 2, 1) := by decide +kernel
theorem dX5_fillSome_77 : decode cX5_fillSome 77 = .ok (.ireturn, 1) := by decide +kernel
theorem dX5_fill_0 : decode cX5_fill 0 = .ok (.aload_n 0, 1) := by decide +kernel
theorem dX5_fill_1 : decode cX5_fill 1 = .ok (.iconst 0, 1) := by decide +kernel
theorem dX5_fill_2 : decode cX5_fill 2 = .ok (.putfield 50, 3) := by decide +kernel
theorem dX5_fill_5 : decode cX5_fill 5 = .ok (.iload_n 1, 1) := by decide +kernel
theorem dX5_fill_6 : decode cX5_fill 6 = .ok (.iconst 1, 1) := by decide +kernel
theorem dX5_fill_7 : decode cX5_fill 7 = .ok (.bipush 100, 2) := by decide +kernel
theorem dX5_fill_9 : decode cX5_fill 9 = .ok (.invokestatic 54, 3) := by decide +kernel
theorem dX5_fill_12 : decode cX5_fill 12 = .ok (.ifCond .ne 8, 3) := by decide +kernel
theorem dX5_fill_15 : decode cX5_fill 15 = .ok (.bipush (-2), 2) := by decide +kernel
theorem dX5_fill_17 : decode cX5_fill 17 = .ok (.goto 20, 3) := by decide +kernel
theorem dX5_fill_20 : decode cX5_fill 20 = .ok (.aload_n 0, 1) := by decide +kernel
theorem dX5_fill_21 : decode cX5_fill 21 = .ok (.getfield 161, 3) := by decide +kernel
theorem dX5_fill_24 : decode cX5_fill 24 = .ok (.ifCond .eq 11, 3) := by decide +kernel
theorem dX5_fill_27 : decode cX5_fill 27 = .ok (.aload_n 0, 1) := by decide +kernel
theorem dX5_fill_28 : decode cX5_fill 28 = .ok (.iload_n 1, 1) := by decide +kernel
theorem dX5_fill_29 : decode cX5_fill 29 = .ok (.invokevirtual 228, 3) := by decide +kernel
theorem dX5_fill_32 : decode cX5_fill 32 = .ok (.goto 5, 3) := by decide +kernel
theorem dX5_fill_35 : decode cX5_fill 35 = .ok (.bipush (-3), 2) := by decide +kernel
theorem dX5_fill_37 : decode cX5_fill 37 = .ok (.ireturn, 1) := by decide +kernel
theorem dX5_word_0 : decode cX5_word 0 = .ok (.aload_n 0, 1) := by decide +kernel
theorem dX5_word_1 : decode cX5_word 1 = .ok (.iconst 0, 1) := by decide +kernel
theorem dX5_word_2 : decode cX5_word 2 = .ok (.putfield 50, 3) := by decide +kernel
theorem dX5_word_5 : decode cX5_word 5 = .ok (.aload_n 0, 1) := by decide +kernel
theorem dX5_word_6 : decode cX5_word 6 = .ok (.getfield 161, 3) := by decide +kernel
theorem dX5_word_9 : decode cX5_word 9 = .ok (.ifCond .eq 49, 3) := by decide +kernel
theorem dX5_word_12 : decode cX5_word 12 = .ok (.iload_n 1, 1) := by decide +kernel
theorem dX5_word_13 : decode cX5_word 13 = .ok (.iconst 0, 1) := by decide +kernel
theorem dX5_word_14 : decode cX5_word 14 = .ok (.iconst 4, 1) := by decide +kernel
theorem dX5_word_15 : decode cX5_word 15 = .ok (.aload_n 0, 1) := by decide +kernel
theorem dX5_word_16 : decode cX5_word 16 = .ok (.getfield 177, 3) := by decide +kernel
theorem dX5_word_19 : decode cX5_word 19 = .ok (.imul, 1) := by decide +kernel
theorem dX5_word_20 : decode cX5_word 20 = .ok (.aload_n 0, 1) := by decide +kernel
theorem dX5_word_21 : decode cX5_word 21 = .ok (.getfield 168, 3) := by decide +kernel
theorem dX5_word_24 : decode cX5_word 24 = .ok (.imul, 1) := by decide +kernel
theorem dX5_word_25 : decode cX5_word 25 = .ok (.iconst 1, 1) := by decide +kernel
theorem dX5_word_26 : decode cX5_word 26 = .ok (.isub, 1) := by decide +kernel
theorem dX5_word_27 : decode cX5_word 27 = .ok (.invokestatic 54, 3) := by decide +kernel
theorem dX5_word_30 : decode cX5_word 30 = .ok (.ifCond .eq 28, 3) := by decide +kernel
theorem dX5_word_33 : decode cX5_word 33 = .ok (.iload_n 2, 1) := by decide +kernel
theorem dX5_word_34 : decode cX5_word 34 = .ok (.iconst 0, 1) := by decide +kernel
theorem dX5_word_35 : decode cX5_word 35 = .ok (.bipush 127, 2) := by decide +kernel
theorem dX5_word_37 : decode cX5_word 37 = .ok (.invokestatic 54, 3) := by decide +kernel
theorem dX5_word_40 : decode cX5_word 40 = .ok (.ifCond .eq 18, 3) := by decide +kernel
theorem dX5_word_43 : decode cX5_word 43 = .ok (.aload_n 0, 1) := by decide +kernel
theorem dX5_word_44 : decode cX5_word 44 = .ok (.getfield 35, 3) := by decide +kernel
theorem dX5_word_47 : decode cX5_word 47 = .ok (.sipush 128, 3) := by decide +kernel
theorem dX5_word_50 : decode cX5_word 50 = .ok (.iload_n 1, 1) := by decide +kernel
theorem dX5_word_51 : decode cX5_word 51 = .ok (.imul, 1) := by decide +kernel
theorem dX5_word_52 : decode cX5_word 52 = .ok (.iload_n 2, 1) := by decide +kernel
theorem dX5_word_53 : decode cX5_word 53 = .ok (.iadd, 1) := by decide +kernel
theorem dX5_word_54 : decode cX5_word 54 = .ok (.laload, 1) := by decide +kernel
theorem dX5_word_55 : decode cX5_word 55 = .ok (.goto 4, 3) := by decide +kernel
theorem dX5_word_58 : decode cX5_word 58 = .ok (.lconst 0, 1) := by decide +kernel
theorem dX5_word_59 : decode cX5_word 59 = .ok (.lreturn, 1) := by decide +kernel
theorem dX5_makeTag_0 : decode cX5_makeTag 0 = .ok (.iconst 0, 1) := by decide +kernel
theorem dX5_makeTag_1 : decode cX5_makeTag 1 = .ok (.istore_n 1, 1) := by decide +kernel
theorem dX5_makeTag_2 : decode cX5_makeTag 2 = .ok (.iload_n 1, 1) := by decide +kernel
theorem dX5_makeTag_3 : decode cX5_makeTag 3 = .ok (.sipush 128, 3) := by decide +kernel
theorem dX5_makeTag_6 : decode cX5_makeTag 6 = .ok (.if_icmp .ge 64, 3) := by decide +kernel
theorem dX5_makeTag_9 : decode cX5_makeTag 9 = .ok (.aload_n 0, 1) := by decide +kernel
theorem dX5_makeTag_10 : decode cX5_makeTag 10 = .ok (.getfield 38, 3) := by decide +kernel
theorem dX5_makeTag_13 : decode cX5_makeTag 13 = .ok (.iload_n 1, 1) := by decide +kernel
theorem dX5_makeTag_14 : decode cX5_makeTag 14 = .ok (.lconst 0, 1) := by decide +kernel
theorem dX5_makeTag_15 : decode cX5_makeTag 15 = .ok (.lastore, 1) := by decide +kernel
theorem dX5_makeTag_16 : decode cX5_makeTag 16 = .ok (.iconst 0, 1) := by decide +kernel
theorem dX5_makeTag_17 : decode cX5_makeTag 17 = .ok (.istore_n 2, 1) := by decide +kernel
theorem dX5_makeTag_18 : decode cX5_makeTag 18 = .ok (.iload_n 2, 1) := by decide +kernel
theorem dX5_makeTag_19 : decode cX5_makeTag 19 = .ok (.aload_n 0, 1) := by decide +kernel
theorem dX5_makeTag_20 : decode cX5_makeTag 20 = .ok (.getfield 168, 3) := by decide +kernel
theorem dX5_makeTag_23 : decode cX5_makeTag 23 = .ok (.if_icmp .ge 41, 3) := by decide +kernel
theorem dX5_makeTag_26 : decode cX5_makeTag 26 = .ok (.aload_n 0, 1) := by decide +kernel
theorem dX5_makeTag_27 : decode cX5_makeTag 27 = .ok (.getfield 38, 3) := by decide +kernel
theorem dX5_makeTag_30 : decode cX5_makeTag 30 = .ok (.iload_n 1, 1) := by decide +kernel
theorem dX5_makeTag_31 : decode cX5_makeTag 31 = .ok (.dup2, 1) := by decide +kernel
theorem dX5_makeTag_32 : decode cX5_makeTag 32 = .ok (.laload, 1) := by decide +kernel
theorem dX5_makeTag_33 : decode cX5_makeTag 33 = .ok (.aload_n 0, 1) := by decide +kernel
theorem dX5_makeTag_34 : decode cX5_makeTag 34 = .ok (.getfield 35, 3) := by decide +kernel
theorem dX5_makeTag_37 : decode cX5_makeTag 37 = .ok (.sipush 128, 3) := by decide +kernel
theorem dX5_makeTag_40 : decode cX5_makeTag 40 = .ok (.iconst 4, 1) := by decide +kernel
theorem dX5_makeTag_41 : decode cX5_makeTag 41 = .ok (.aload_n 0, 1) := by decide +kernel
theorem dX5_makeTag_42 : decode cX5_makeTag 42 = .ok (.getfield 177, 3) := by decide +kernel
theorem dX5_makeTag_45 : decode cX5_makeTag 45 = .ok (.imul, 1) := by decide +kernel
theorem dX5_makeTag_46 : decode cX5_makeTag 46 = .ok (.iload_n 2, 1) := by decide +kernel
theorem dX5_makeTag_47 : decode cX5_makeTag 47 = .ok (.iconst 1, 1) := by decide +kernel
theorem dX5_makeTag_48 : decode cX5_makeTag 48 = .ok (.iadd, 1) := by decide +kernel
theorem dX5_makeTag_49 : decode cX5_makeTag 49 = .ok (.imul, 1) := by decide +kernel
theorem dX5_makeTag_50 : decode cX5_makeTag 50 = .ok (.iconst 1, 1) := by decide +kernel
theorem dX5_makeTag_51 : decode cX5_makeTag 51 = .ok (.isub, 1) := by decide +kernel
theorem dX5_makeTag_52 : decode cX5_makeTag 52 = .ok (.imul, 1) := by decide +kernel
theorem dX5_makeTag_53 : decode cX5_makeTag 53 = .ok (.iload_n 1, 1) := by decide +kernel
theorem dX5_makeTag_54 : decode cX5_makeTag 54 = .ok (.iadd, 1) := by decide +kernel
theorem dX5_makeTag_55 : decode cX5_makeTag 55 = .ok (.laload, 1) := by decide +kernel
theorem dX5_makeTag_56 : decode cX5_makeTag 56 = .ok (.lxor, 1) := by decide +kernel
theorem dX5_makeTag_57 : decode cX5_makeTag 57 = .ok (.lastore, 1) := by decide +kernel
theorem dX5_makeTag_58 : decode cX5_makeTag 58 = .ok (.iinc 2 1, 3) := by decide +kernel
theorem dX5_makeTag_61 : decode cX5_makeTag 61 = .ok (.goto (-43), 3) := by decide +kernel
theorem dX5_makeTag_64 : decode cX5_makeTag 64 = .ok (.iinc 1 1, 3) := by decide +kernel
theorem dX5_makeTag_67 : decode cX5_makeTag 67 = .ok (.goto (-65), 3) := by decide +kernel
theorem dX5_makeTag_70 : decode cX5_makeTag 70 = .ok (.aload_n 0, 1) := by decide +kernel
theorem dX5_makeTag_71 : decode cX5_makeTag 71 = .ok (.iconst 4, 1) := by decide +kernel
theorem dX5_makeTag_72 : decode cX5_makeTag 72 = .ok (.putfield 109, 3) := by decide +kernel
theorem dX5_makeTag_75 : decode cX5_makeTag 75 = .ok (.iconst 0, 1) := by decide +kernel
theorem dX5_makeTag_76 : decode cX5_makeTag 76 = .ok (.istore_n 1, 1) := by decide +kernel
theorem dX5_makeTag_77 : decode cX5_makeTag 77 = .ok (.iload_n 1, 1) := by decide +kernel
theorem dX5_makeTag_78 : decode cX5_makeTag 78 = .ok (.sipush 128, 3) := by decide +kernel
theorem dX5_makeTag_81 : decode cX5_makeTag 81 = .ok (.if_icmp .ge 21, 3) := by decide +kernel
theorem dX5_makeTag_84 : decode cX5_makeTag 84 = .ok (.aload_n 0, 1) := by decide +kernel
theorem dX5_makeTag_85 : decode cX5_makeTag 85 = .ok (.bipush 8, 2) := by decide +kernel
theorem dX5_makeTag_87 : decode cX5_makeTag 87 = .ok (.aload_n 0, 1) := by decide +kernel
theorem dX5_makeTag_88 : decode cX5_makeTag 88 = .ok (.getfield 38, 3) := by decide +kernel
theorem dX5_makeTag_91 : decode cX5_makeTag 91 = .ok (.iload_n 1, 1) := by decide +kernel
theorem dX5_makeTag_92 : decode cX5_makeTag 92 = .ok (.laload, 1) := by decide +kernel
theorem dX5_makeTag_93 : decode cX5_makeTag 93 = .ok (.invokevirtual 144, 3) := by decide +kernel
theorem dX5_makeTag_96 : decode cX5_makeTag 96 = .ok (.iinc 1 1, 3) := by decide +kernel
theorem dX5_makeTag_99 : decode cX5_makeTag 99 = .ok (.goto (-22), 3) := by decide +kernel
theorem dX5_makeTag_102 : decode cX5_makeTag 102 = .ok (.aload_n 0, 1) := by decide +kernel
theorem dX5_makeTag_103 : decode cX5_makeTag 103 = .ok (.aload_n 0, 1) := by decide +kernel
theorem dX5_makeTag_104 : decode cX5_makeTag 104 = .ok (.getfield 174, 3) := by decide +kernel
theorem dX5_makeTag_107 : decode cX5_makeTag 107 = .ok (.invokevirtual 155, 3) := by decide +kernel
theorem dX5_makeTag_110 : decode cX5_makeTag 110 = .ok (.return_, 1) := by decide +kernel
theorem dX5_tag_0 : decode cX5_tag 0 = .ok (.aload_n 0, 1) := by decide +kernel
theorem dX5_tag_1 : decode cX5_tag 1 = .ok (.iconst 0, 1) := by decide +kernel
theorem dX5_tag_2 : decode cX5_tag 2 = .ok (.putfield 50, 3) := by decide +kernel
theorem dX5_tag_5 : decode cX5_tag 5 = .ok (.iload_n 1, 1) := by decide +kernel
theorem dX5_tag_6 : decode cX5_tag 6 = .ok (.invokestatic 58, 3) := by decide +kernel
theorem dX5_tag_9 : decode cX5_tag 9 = .ok (.ifCond .ne 6, 3) := by decide +kernel
theorem dX5_tag_12 : decode cX5_tag 12 = .ok (.bipush (-2), 2) := by decide +kernel
theorem dX5_tag_14 : decode cX5_tag 14 = .ok (.ireturn, 1) := by decide +kernel
theorem dX5_tag_15 : decode cX5_tag 15 = .ok (.aload_n 0, 1) := by decide +kernel
theorem dX5_tag_16 : decode cX5_tag 16 = .ok (.getfield 161, 3) := by decide +kernel
theorem dX5_tag_19 : decode cX5_tag 19 = .ok (.ifCond .eq 21, 3) := by decide +kernel
theorem dX5_tag_22 : decode cX5_tag 22 = .ok (.aload_n 0, 1) := by decide +kernel
theorem dX5_tag_23 : decode cX5_tag 23 = .ok (.getfield 180, 3) := by decide +kernel
theorem dX5_tag_26 : decode cX5_tag 26 = .ok (.iconst 4, 1) := by decide +kernel
theorem dX5_tag_27 : decode cX5_tag 27 = .ok (.aload_n 0, 1) := by decide +kernel
theorem dX5_tag_28 : decode cX5_tag 28 = .ok (.getfield 168, 3) := by decide +kernel
theorem dX5_tag_31 : decode cX5_tag 31 = .ok (.imul, 1) := by decide +kernel
theorem dX5_tag_32 : decode cX5_tag 32 = .ok (.aload_n 0, 1) := by decide +kernel
theorem dX5_tag_33 : decode cX5_tag 33 = .ok (.getfield 171, 3) := by decide +kernel
theorem dX5_tag_36 : decode cX5_tag 36 = .ok (.imul, 1) := by decide +kernel
theorem dX5_tag_37 : decode cX5_tag 37 = .ok (.if_icmp .ge 6, 3) := by decide +kernel
theorem dX5_tag_40 : decode cX5_tag 40 = .ok (.bipush (-3), 2) := by decide +kernel
theorem dX5_tag_42 : decode cX5_tag 42 = .ok (.ireturn, 1) := by decide +kernel
theorem dX5_tag_43 : decode cX5_tag 43 = .ok (.aload_n 0, 1) := by decide +kernel
theorem dX5_tag_44 : decode cX5_tag 44 = .ok (.invokevirtual 231, 3) := by decide +kernel
theorem dX5_tag_47 : decode cX5_tag 47 = .ok (.aload_n 0, 1) := by decide +kernel
theorem dX5_tag_48 : decode cX5_tag 48 = .ok (.iload_n 1, 1) := by decide +kernel
theorem dX5_tag_49 : decode cX5_tag 49 = .ok (.aload_n 0, 1) := by decide +kernel
theorem dX5_tag_50 : decode cX5_tag 50 = .ok (.getfield 174, 3) := by decide +kernel
theorem dX5_tag_53 : decode cX5_tag 53 = .ok (.invokevirtual 152, 3) := by decide +kernel
theorem dX5_tag_56 : decode cX5_tag 56 = .ok (.aload_n 0, 1) := by decide +kernel
theorem dX5_tag_57 : decode cX5_tag 57 = .ok (.getfield 174, 3) := by decide +kernel
theorem dX5_tag_60 : decode cX5_tag 60 = .ok (.ireturn, 1) := by decide +kernel
