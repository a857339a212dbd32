theorem dX1_doSegment_0 : decode cX1_doSegment 0 = .ok (.aload_n 0, 1) := by decide +kernel
theorem dX1_doSegment_1 : decode cX1_doSegment 1 = .ok (.getfield 38, 3) := by decide +kernel
theorem dX1_doSegment_4 : decode cX1_doSegment 4 = .ok (.iconst 1, 1) := by decide +kernel
theorem dX1_doSegment_5 : decode cX1_doSegment 5 = .ok (.if_icmp .lt 14, 3) := by decide +kernel
theorem dX1_doSegment_8 : decode cX1_doSegment 8 = .ok (.aload_n 0, 1) := by decide +kernel
theorem dX1_doSegment_9 : decode cX1_doSegment 9 = .ok (.getfield 53, 3) := by decide +kernel
theorem dX1_doSegment_12 : decode cX1_doSegment 12 = .ok (.aload_n 0, 1) := by decide +kernel
theorem dX1_doSegment_13 : decode cX1_doSegment 13 = .ok (.invokevirtual 80, 3) := by decide +kernel
theorem dX1_doSegment_16 : decode cX1_doSegment 16 = .ok (.if_icmp .lt 4, 3) := by decide +kernel
theorem dX1_doSegment_19 : decode cX1_doSegment 19 = .ok (.return_, 1) := by decide +kernel
theorem dX1_doSegment_20 : decode cX1_doSegment 20 = .ok (.aload_n 0, 1) := by decide +kernel
theorem dX1_doSegment_21 : decode cX1_doSegment 21 = .ok (.aload_n 0, 1) := by decide +kernel
theorem dX1_doSegment_22 : decode cX1_doSegment 22 = .ok (.getfield 53, 3) := by decide +kernel
theorem dX1_doSegment_25 : decode cX1_doSegment 25 = .ok (.aload_n 0, 1) := by decide +kernel
theorem dX1_doSegment_26 : decode cX1_doSegment 26 = .ok (.getfield 38, 3) := by decide +kernel
theorem dX1_doSegment_29 : decode cX1_doSegment 29 = .ok (.irem, 1) := by decide +kernel
theorem dX1_doSegment_30 : decode cX1_doSegment 30 = .ok (.putfield 83, 3) := by decide +kernel
theorem dX1_doSegment_33 : decode cX1_doSegment 33 = .ok (.aload_n 0, 1) := by decide +kernel
theorem dX1_doSegment_34 : decode cX1_doSegment 34 = .ok (.aload_n 0, 1) := by decide +kernel
theorem dX1_doSegment_35 : decode cX1_doSegment 35 = .ok (.getfield 53, 3) := by decide +kernel
theorem dX1_doSegment_38 : decode cX1_doSegment 38 = .ok (.aload_n 0, 1) := by decide +kernel
theorem dX1_doSegment_39 : decode cX1_doSegment 39 = .ok (.getfield 38, 3) := by decide +kernel
theorem dX1_doSegment_42 : decode cX1_doSegment 42 = .ok (.idiv, 1) := by decide +kernel
theorem dX1_doSegment_43 : decode cX1_doSegment 43 = .ok (.iconst 4, 1) := by decide +kernel
theorem dX1_doSegment_44 : decode cX1_doSegment 44 = .ok (.irem, 1) := by decide +kernel
theorem dX1_doSegment_45 : decode cX1_doSegment 45 = .ok (.putfield 86, 3) := by decide +kernel
theorem dX1_doSegment_48 : decode cX1_doSegment 48 = .ok (.aload_n 0, 1) := by decide +kernel
theorem dX1_doSegment_49 : decode cX1_doSegment 49 = .ok (.aload_n 0, 1) := by decide +kernel
theorem dX1_doSegment_50 : decode cX1_doSegment 50 = .ok (.getfield 53, 3) := by decide +kernel
theorem dX1_doSegment_53 : decode cX1_doSegment 53 = .ok (.aload_n 0, 1) := by decide +kernel
theorem dX1_doSegment_54 : decode cX1_doSegment 54 = .ok (.getfield 38, 3) := by decide +kernel
theorem dX1_doSegment_57 : decode cX1_doSegment 57 = .ok (.idiv, 1) := by decide +kernel
theorem dX1_doSegment_58 : decode cX1_doSegment 58 = .ok (.iconst 4, 1) := by decide +kernel
theorem dX1_doSegment_59 : decode cX1_doSegment 59 = .ok (.idiv, 1) := by decide +kernel
theorem dX1_doSegment_60 : decode cX1_doSegment 60 = .ok (.putfield 89, 3) := by decide +kernel
theorem dX1_doSegment_63 : decode cX1_doSegment 63 = .ok (.aload_n 0, 1) := by decide +kernel
theorem dX1_doSegment_64 : decode cX1_doSegment 64 = .ok (.invokevirtual 92, 3) := by decide +kernel
theorem dX1_doSegment_67 : decode cX1_doSegment 67 = .ok (.istore_n 1, 1) := by decide +kernel
theorem dX1_doSegment_68 : decode cX1_doSegment 68 = .ok (.iload_n 1, 1) := by decide +kernel
theorem dX1_doSegment_69 : decode cX1_doSegment 69 = .ok (.ifCond .eq 47, 3) := by decide +kernel
theorem dX1_doSegment_72 : decode cX1_doSegment 72 = .ok (.aload_n 0, 1) := by decide +kernel
theorem dX1_doSegment_73 : decode cX1_doSegment 73 = .ok (.invokevirtual 96, 3) := by decide +kernel
theorem dX1_doSegment_76 : decode cX1_doSegment 76 = .ok (.aload_n 0, 1) := by decide +kernel
theorem dX1_doSegment_77 : decode cX1_doSegment 77 = .ok (.getfield 26, 3) := by decide +kernel
theorem dX1_doSegment_80 : decode cX1_doSegment 80 = .ok (.aload_n 0, 1) := by decide +kernel
theorem dX1_doSegment_81 : decode cX1_doSegment 81 = .ok (.getfield 16, 3) := by decide +kernel
theorem dX1_doSegment_84 : decode cX1_doSegment 84 = .ok (.aload_n 0, 1) := by decide +kernel
theorem dX1_doSegment_85 : decode cX1_doSegment 85 = .ok (.getfield 20, 3) := by decide +kernel
theorem dX1_doSegment_88 : decode cX1_doSegment 88 = .ok (.aload_n 0, 1) := by decide +kernel
theorem dX1_doSegment_89 : decode cX1_doSegment 89 = .ok (.getfield 20, 3) := by decide +kernel
theorem dX1_doSegment_92 : decode cX1_doSegment 92 = .ok (.iconst 0, 1) := by decide +kernel
theorem dX1_doSegment_93 : decode cX1_doSegment 93 = .ok (.invokevirtual 99, 3) := by decide +kernel
theorem dX1_doSegment_96 : decode cX1_doSegment 96 = .ok (.aload_n 0, 1) := by decide +kernel
theorem dX1_doSegment_97 : decode cX1_doSegment 97 = .ok (.getfield 26, 3) := by decide +kernel
theorem dX1_doSegment_100 : decode cX1_doSegment 100 = .ok (.aload_n 0, 1) := by decide +kernel
theorem dX1_doSegment_101 : decode cX1_doSegment 101 = .ok (.getfield 16, 3) := by decide +kernel
theorem dX1_doSegment_104 : decode cX1_doSegment 104 = .ok (.aload_n 0, 1) := by decide +kernel
theorem dX1_doSegment_105 : decode cX1_doSegment 105 = .ok (.getfield 20, 3) := by decide +kernel
theorem dX1_doSegment_108 : decode cX1_doSegment 108 = .ok (.aload_n 0, 1) := by decide +kernel
theorem dX1_doSegment_109 : decode cX1_doSegment 109 = .ok (.getfield 20, 3) := by decide +kernel
theorem dX1_doSegment_112 : decode cX1_doSegment 112 = .ok (.iconst 0, 1) := by decide +kernel
theorem dX1_doSegment_113 : decode cX1_doSegment 113 = .ok (.invokevirtual 99, 3) := by decide +kernel
theorem dX1_doSegment_116 : decode cX1_doSegment 116 = .ok (.aload_n 0, 1) := by decide +kernel
theorem dX1_doSegment_117 : decode cX1_doSegment 117 = .ok (.getfield 83, 3) := by decide +kernel
theorem dX1_doSegment_120 : decode cX1_doSegment 120 = .ok (.aload_n 0, 1) := by decide +kernel
theorem dX1_doSegment_121 : decode cX1_doSegment 121 = .ok (.getfield 50, 3) := by decide +kernel
theorem dX1_doSegment_124 : decode cX1_doSegment 124 = .ok (.imul, 1) := by decide +kernel
theorem dX1_doSegment_125 : decode cX1_doSegment 125 = .ok (.istore_n 2, 1) := by decide +kernel
theorem dX1_doSegment_126 : decode cX1_doSegment 126 = .ok (.aload_n 0, 1) := by decide +kernel
theorem dX1_doSegment_127 : decode cX1_doSegment 127 = .ok (.invokevirtual 103, 3) := by decide +kernel
theorem dX1_doSegment_130 : decode cX1_doSegment 130 = .ok (.ifCond .eq 7, 3) := by decide +kernel
theorem dX1_doSegment_133 : decode cX1_doSegment 133 = .ok (.iconst 2, 1) := by decide +kernel
theorem dX1_doSegment_134 : decode cX1_doSegment 134 = .ok (.goto 4, 3) := by decide +kernel
theorem dX1_doSegment_137 : decode cX1_doSegment 137 = .ok (.iconst 0, 1) := by decide +kernel
theorem dX1_doSegment_138 : decode cX1_doSegment 138 = .ok (.istore_n 3, 1) := by decide +kernel
theorem dX1_doSegment_139 : decode cX1_doSegment 139 = .ok (.iload_n 3, 1) := by decide +kernel
theorem dX1_doSegment_140 : decode cX1_doSegment 140 = .ok (.aload_n 0, 1) := by decide +kernel
theorem dX1_doSegment_141 : decode cX1_doSegment 141 = .ok (.getfield 47, 3) := by decide +kernel
theorem dX1_doSegment_144 : decode cX1_doSegment 144 = .ok (.if_icmp .ge 113, 3) := by decide +kernel
theorem dX1_doSegment_147 : decode cX1_doSegment 147 = .ok (.aload_n 0, 1) := by decide +kernel
theorem dX1_doSegment_148 : decode cX1_doSegment 148 = .ok (.getfield 86, 3) := by decide +kernel
theorem dX1_doSegment_151 : decode cX1_doSegment 151 = .ok (.aload_n 0, 1) := by decide +kernel
theorem dX1_doSegment_152 : decode cX1_doSegment 152 = .ok (.getfield 47, 3) := by decide +kernel
theorem dX1_doSegment_155 : decode cX1_doSegment 155 = .ok (.imul, 1) := by decide +kernel
theorem dX1_doSegment_156 : decode cX1_doSegment 156 = .ok (.iload_n 3, 1) := by decide +kernel
theorem dX1_doSegment_157 : decode cX1_doSegment 157 = .ok (.iadd, 1) := by decide +kernel
theorem dX1_doSegment_158 : decode cX1_doSegment 158 = .ok (.istore 4, 2) := by decide +kernel
theorem dX1_doSegment_160 : decode cX1_doSegment 160 = .ok (.aload_n 0, 1) := by decide +kernel
theorem dX1_doSegment_161 : decode cX1_doSegment 161 = .ok (.iload_n 2, 1) := by decide +kernel
theorem dX1_doSegment_162 : decode cX1_doSegment 162 = .ok (.iload 4, 2) := by decide +kernel
theorem dX1_doSegment_164 : decode cX1_doSegment 164 = .ok (.ifCond .ne 10, 3) := by decide +kernel
theorem dX1_doSegment_167 : decode cX1_doSegment 167 = .ok (.aload_n 0, 1) := by decide +kernel
theorem dX1_doSegment_168 : decode cX1_doSegment 168 = .ok (.getfield 50, 3) := by decide +kernel
theorem dX1_doSegment_171 : decode cX1_doSegment 171 = .ok (.goto 5, 3) := by decide +kernel
theorem dX1_doSegment_174 : decode cX1_doSegment 174 = .ok (.iload 4, 2) := by decide +kernel
theorem dX1_doSegment_176 : decode cX1_doSegment 176 = .ok (.iadd, 1) := by decide +kernel
theorem dX1_doSegment_177 : decode cX1_doSegment 177 = .ok (.iconst 1, 1) := by decide +kernel
theorem dX1_doSegment_178 : decode cX1_doSegment 178 = .ok (.isub, 1) := by decide +kernel
theorem dX1_doSegment_179 : decode cX1_doSegment 179 = .ok (.invokevirtual 68, 3) := by decide +kernel
theorem dX1_doSegment_182 : decode cX1_doSegment 182 = .ok (.astore 5, 2) := by decide +kernel
theorem dX1_doSegment_184 : decode cX1_doSegment 184 = .ok (.iload_n 1, 1) := by decide +kernel
theorem dX1_doSegment_185 : decode cX1_doSegment 185 = .ok (.ifCond .eq 16, 3) := by decide +kernel
theorem dX1_doSegment_188 : decode cX1_doSegment 188 = .ok (.aload_n 0, 1) := by decide +kernel
theorem dX1_doSegment_189 : decode cX1_doSegment 189 = .ok (.getfield 20, 3) := by decide +kernel
theorem dX1_doSegment_192 : decode cX1_doSegment 192 = .ok (.iload_n 3, 1) := by decide +kernel
theorem dX1_doSegment_193 : decode cX1_doSegment 193 = .ok (.sipush 128, 3) := by decide +kernel
theorem dX1_doSegment_196 : decode cX1_doSegment 196 = .ok (.irem, 1) := by decide +kernel
theorem dX1_doSegment_197 : decode cX1_doSegment 197 = .ok (.laload, 1) := by decide +kernel
theorem dX1_doSegment_198 : decode cX1_doSegment 198 = .ok (.goto 7, 3) := by decide +kernel
theorem dX1_doSegment_201 : decode cX1_doSegment 201 = .ok (.aload 5, 2) := by decide +kernel
theorem dX1_doSegment_203 : decode cX1_doSegment 203 = .ok (.iconst 0, 1) := by decide +kernel
theorem dX1_doSegment_204 : decode cX1_doSegment 204 = .ok (.laload, 1) := by decide +kernel
theorem dX1_doSegment_205 : decode cX1_doSegment 205 = .ok (.lstore 6, 2) := by decide +kernel
theorem dX1_doSegment_207 : decode cX1_doSegment 207 = .ok (.aload_n 0, 1) := by decide +kernel
theorem dX1_doSegment_208 : decode cX1_doSegment 208 = .ok (.aload_n 0, 1) := by decide +kernel
theorem dX1_doSegment_209 : decode cX1_doSegment 209 = .ok (.iload_n 3, 1) := by decide +kernel
theorem dX1_doSegment_210 : decode cX1_doSegment 210 = .ok (.lload 6, 2) := by decide +kernel
theorem dX1_doSegment_212 : decode cX1_doSegment 212 = .ok (.invokevirtual 106, 3) := by decide +kernel
theorem dX1_doSegment_215 : decode cX1_doSegment 215 = .ok (.invokevirtual 68, 3) := by decide +kernel
theorem dX1_doSegment_218 : decode cX1_doSegment 218 = .ok (.astore 8, 2) := by decide +kernel
theorem dX1_doSegment_220 : decode cX1_doSegment 220 = .ok (.aload_n 0, 1) := by decide +kernel
theorem dX1_doSegment_221 : decode cX1_doSegment 221 = .ok (.getfield 26, 3) := by decide +kernel
theorem dX1_doSegment_224 : decode cX1_doSegment 224 = .ok (.aload 5, 2) := by decide +kernel
theorem dX1_doSegment_226 : decode cX1_doSegment 226 = .ok (.aload 8, 2) := by decide +kernel
theorem dX1_doSegment_228 : decode cX1_doSegment 228 = .ok (.aload_n 0, 1) := by decide +kernel
theorem dX1_doSegment_229 : decode cX1_doSegment 229 = .ok (.iload_n 2, 1) := by decide +kernel
theorem dX1_doSegment_230 : decode cX1_doSegment 230 = .ok (.iload 4, 2) := by decide +kernel
theorem dX1_doSegment_232 : decode cX1_doSegment 232 = .ok (.iadd, 1) := by decide +kernel
theorem dX1_doSegment_233 : decode cX1_doSegment 233 = .ok (.invokevirtual 68, 3) := by decide +kernel
theorem dX1_doSegment_236 : decode cX1_doSegment 236 = .ok (.aload_n 0, 1) := by decide +kernel
theorem dX1_doSegment_237 : decode cX1_doSegment 237 = .ok (.getfield 89, 3) := by decide +kernel
theorem dX1_doSegment_240 : decode cX1_doSegment 240 = .ok (.ifCond .le 7, 3) := by decide +kernel
theorem dX1_doSegment_243 : decode cX1_doSegment 243 = .ok (.iconst 1, 1) := by decide +kernel
theorem dX1_doSegment_244 : decode cX1_doSegment 244 = .ok (.goto 4, 3) := by decide +kernel
theorem dX1_doSegment_247 : decode cX1_doSegment 247 = .ok (.iconst 0, 1) := by decide +kernel
theorem dX1_doSegment_248 : decode cX1_doSegment 248 = .ok (.invokevirtual 99, 3) := by decide +kernel
theorem dX1_doSegment_251 : decode cX1_doSegment 251 = .ok (.iinc 3 1, 3) := by decide +kernel
theorem dX1_doSegment_254 : decode cX1_doSegment 254 = .ok (.goto (-115), 3) := by decide +kernel
theorem dX1_doSegment_257 : decode cX1_doSegment 257 = .ok (.aload_n 0, 1) := by decide +kernel
theorem dX1_doSegment_258 : decode cX1_doSegment 258 = .ok (.dup, 1) := by decide +kernel
theorem dX1_doSegment_259 : decode cX1_doSegment 259 = .ok (.getfield 53, 3) := by decide +kernel
theorem dX1_doSegment_262 : decode cX1_doSegment 262 = .ok (.iconst 1, 1) := by decide +kernel
theorem dX1_doSegment_263 : decode cX1_doSegment 263 = .ok (.iadd, 1) := by decide +kernel
theorem dX1_doSegment_264 : decode cX1_doSegment 264 = .ok (.putfield 53, 3) := by decide +kernel
theorem dX1_doSegment_267 : decode cX1_doSegment 267 = .ok (.return_, 1) := by decide +kernel
theorem dX1_isFirstSlice_0 : decode cX1_isFirstSlice 0 = .ok (.aload_n 0, 1) := by decide +kernel
theorem dX1_isFirstSlice_1 : decode cX1_isFirstSlice 1 = .ok (.getfield 89, 3) := by decide +kernel
theorem dX1_isFirstSlice_4 : decode cX1_isFirstSlice 4 = .ok (.ifCond .ne 14, 3) := by decide +kernel
theorem dX1_isFirstSlice_7 : decode cX1_isFirstSlice 7 = .ok (.aload_n 0, 1) := by decide +kernel
theorem dX1_isFirstSlice_8 : decode cX1_isFirstSlice 8 = .ok (.getfield 86, 3) := by decide +kernel
theorem dX1_isFirstSlice_11 : decode cX1_isFirstSlice 11 = .ok (.ifCond .ne 7, 3) := by decide +kernel
theorem dX1_isFirstSlice_14 : decode cX1_isFirstSlice 14 = .ok (.iconst 1, 1) := by decide +kernel
theorem dX1_isFirstSlice_15 : decode cX1_isFirstSlice 15 = .ok (.goto 4, 3) := by decide +kernel
theorem dX1_isFirstSlice_18 : decode cX1_isFirstSlice 18 = .ok (.iconst 0, 1) := by decide +kernel
theorem dX1_isFirstSlice_19 : decode cX1_isFirstSlice 19 = .ok (.ireturn, 1) := by decide +kernel
theorem dX1_goesByAddress_0 : decode cX1_goesByAddress 0 = .ok (.aload_n 0, 1) := by decide +kernel
theorem dX1_goesByAddress_1 : decode cX1_goesByAddress 1 = .ok (.getfield 34, 3) := by decide +kernel
theorem dX1_goesByAddress_4 : decode cX1_goesByAddress 4 = .ok (.iconst 1, 1) := by decide +kernel
theorem dX1_goesByAddress_5 : decode cX1_goesByAddress 5 = .ok (.if_icmp .eq 26, 3) := by decide +kernel
theorem dX1_goesByAddress_8 : decode cX1_goesByAddress 8 = .ok (.aload_n 0, 1) := by decide +kernel
theorem dX1_goesByAddress_9 : decode cX1_goesByAddress 9 = .ok (.getfield 34, 3) := by decide +kernel
theorem dX1_goesByAddress_12 : decode cX1_goesByAddress 12 = .ok (.iconst 2, 1) := by decide +kernel
theorem dX1_goesByAddress_13 : decode cX1_goesByAddress 13 = .ok (.if_icmp .ne 22, 3) := by decide +kernel
theorem dX1_goesByAddress_16 : decode cX1_goesByAddress 16 = .ok (.aload_n 0, 1) := by decide +kernel
theorem dX1_goesByAddress_17 : decode cX1_goesByAddress 17 = .ok (.getfield 89, 3) := by decide +kernel
theorem dX1_goesByAddress_20 : decode cX1_goesByAddress 20 = .ok (.ifCond .ne 15, 3) := by decide +kernel
theorem dX1_goesByAddress_23 : decode cX1_goesByAddress 23 = .ok (.aload_n 0, 1) := by decide +kernel
theorem dX1_goesByAddress_24 : decode cX1_goesByAddress 24 = .ok (.getfield 86, 3) := by decide +kernel
theorem dX1_goesByAddress_27 : decode cX1_goesByAddress 27 = .ok (.iconst 2, 1) := by decide +kernel
theorem dX1_goesByAddress_28 : decode cX1_goesByAddress 28 = .ok (.if_icmp .ge 7, 3) := by decide +kernel
theorem dX1_goesByAddress_31 : decode cX1_goesByAddress 31 = .ok (.iconst 1, 1) := by decide +kernel
theorem dX1_goesByAddress_32 : decode cX1_goesByAddress 32 = .ok (.goto 4, 3) := by decide +kernel
theorem dX1_goesByAddress_35 : decode cX1_goesByAddress 35 = .ok (.iconst 0, 1) := by decide +kernel
theorem dX1_goesByAddress_36 : decode cX1_goesByAddress 36 = .ok (.ireturn, 1) := by decide +kernel
theorem dX1_openAddress_0 : decode cX1_openAddress 0 = .ok (.iconst 0, 1) := by decide +kernel
theorem dX1_openAddress_1 : decode cX1_openAddress 1 = .ok (.istore_n 1, 1) := by decide +kernel
theorem dX1_openAddress_2 : decode cX1_openAddress 2 = .ok (.iload_n 1, 1) := by decide +kernel
theorem dX1_openAddress_3 : decode cX1_openAddress 3 = .ok (.sipush 128, 3) := by decide +kernel
theorem dX1_openAddress_6 : decode cX1_openAddress 6 = .ok (.if_icmp .ge 16, 3) := by decide +kernel
theorem dX1_openAddress_9 : decode cX1_openAddress 9 = .ok (.aload_n 0, 1) := by decide +kernel
theorem dX1_openAddress_10 : decode cX1_openAddress 10 = .ok (.getfield 20, 3) := by decide +kernel
theorem dX1_openAddress_13 : decode cX1_openAddress 13 = .ok (.iload_n 1, 1) := by decide +kernel
theorem dX1_openAddress_14 : decode cX1_openAddress 14 = .ok (.lconst 0, 1) := by decide +kernel
theorem dX1_openAddress_15 : decode cX1_openAddress 15 = .ok (.lastore, 1) := by decide +kernel
theorem dX1_openAddress_16 : decode cX1_openAddress 16 = .ok (.iinc 1 1, 3) := by decide +kernel
theorem dX1_openAddress_19 : decode cX1_openAddress 19 = .ok (.goto (-17), 3) := by decide +kernel
theorem dX1_openAddress_22 : decode cX1_openAddress 22 = .ok (.aload_n 0, 1) := by decide +kernel
theorem dX1_openAddress_23 : decode cX1_openAddress 23 = .ok (.getfield 20, 3) := by decide +kernel
theorem dX1_openAddress_26 : decode cX1_openAddress 26 = .ok (.iconst 0, 1) := by decide +kernel
theorem dX1_openAddress_27 : decode cX1_openAddress 27 = .ok (.aload_n 0, 1) := by decide +kernel
theorem dX1_openAddress_28 : decode cX1_openAddress 28 = .ok (.getfield 89, 3) := by decide +kernel
theorem dX1_openAddress_31 : decode cX1_openAddress 31 = .ok (.i2l, 1) := by decide +kernel
theorem dX1_openAddress_32 : decode cX1_openAddress 32 = .ok (.lastore, 1) := by decide +kernel
theorem dX1_openAddress_33 : decode cX1_openAddress 33 = .ok (.aload_n 0, 1) := by decide +kernel
theorem dX1_openAddress_34 : decode cX1_openAddress 34 = .ok (.getfield 20, 3) := by decide +kernel
theorem dX1_openAddress_37 : decode cX1_openAddress 37 = .ok (.iconst 1, 1) := by decide +kernel
theorem dX1_openAddress_38 : decode cX1_openAddress 38 = .ok (.aload_n 0, 1) := by decide +kernel
theorem dX1_openAddress_39 : decode cX1_openAddress 39 = .ok (.getfield 83, 3) := by decide +kernel
theorem dX1_openAddress_42 : decode cX1_openAddress 42 = .ok (.i2l, 1) := by decide +kernel
theorem dX1_openAddress_43 : decode cX1_openAddress 43 = .ok (.lastore, 1) := by decide +kernel
theorem dX1_openAddress_44 : decode cX1_openAddress 44 = .ok (.aload_n 0, 1) := by decide +kernel
theorem dX1_openAddress_45 : decode cX1_openAddress 45 = .ok (.getfield 20, 3) := by decide +kernel
theorem dX1_openAddress_48 : decode cX1_openAddress 48 = .ok (.iconst 2, 1) := by decide +kernel
theorem dX1_openAddress_49 : decode cX1_openAddress 49 = .ok (.aload_n 0, 1) := by decide +kernel
theorem dX1_openAddress_50 : decode cX1_openAddress 50 = .ok (.getfield 86, 3) := by decide +kernel
theorem dX1_openAddress_53 : decode cX1_openAddress 53 = .ok (.i2l, 1) := by decide +kernel
theorem dX1_openAddress_54 : decode cX1_openAddress 54 = .ok (.lastore, 1) := by decide +kernel
theorem dX1_openAddress_55 : decode cX1_openAddress 55 = .ok (.aload_n 0, 1) := by decide +kernel
theorem dX1_openAddress_56 : decode cX1_openAddress 56 = .ok (.getfield 20, 3) := by decide +kernel
theorem dX1_openAddress_59 : decode cX1_openAddress 59 = .ok (.iconst 3, 1) := by decide +kernel
theorem dX1_openAddress_60 : decode cX1_openAddress 60 = .ok (.aload_n 0, 1) := by decide +kernel
theorem dX1_openAddress_61 : decode cX1_openAddress 61 = .ok (.invokevirtual 64, 3) := by decide +kernel
theorem dX1_openAddress_64 : decode cX1_openAddress 64 = .ok (.i2l, 1) := by decide +kernel
theorem dX1_openAddress_65 : decode cX1_openAddress 65 = .ok (.lastore, 1) := by decide +kernel
theorem dX1_openAddress_66 : decode cX1_openAddress 66 = .ok (.aload_n 0, 1) := by decide +kernel
theorem dX1_openAddress_67 : decode cX1_openAddress 67 = .ok (.getfield 20, 3) := by decide +kernel
theorem dX1_openAddress_70 : decode cX1_openAddress 70 = .ok (.iconst 4, 1) := by decide +kernel
theorem dX1_openAddress_71 : decode cX1_openAddress 71 = .ok (.aload_n 0, 1) := by decide +kernel
theorem dX1_openAddress_72 : decode cX1_openAddress 72 = .ok (.getfield 41, 3) := by decide +kernel
theorem dX1_openAddress_75 : decode cX1_openAddress 75 = .ok (.i2l, 1) := by decide +kernel
theorem dX1_openAddress_76 : decode cX1_openAddress 76 = .ok (.lastore, 1) := by decide +kernel
theorem dX1_openAddress_77 : decode cX1_openAddress 77 = .ok (.aload_n 0, 1) := by decide +kernel
theorem dX1_openAddress_78 : decode cX1_openAddress 78 = .ok (.getfield 20, 3) := by decide +kernel
theorem dX1_openAddress_81 : decode cX1_openAddress 81 = .ok (.iconst 5, 1) := by decide +kernel
theorem dX1_openAddress_82 : decode cX1_openAddress 82 = .ok (.aload_n 0, 1) := by decide +kernel
theorem dX1_openAddress_83 : decode cX1_openAddress 83 = .ok (.getfield 34, 3) := by decide +kernel
theorem dX1_openAddress_86 : decode cX1_openAddress 86 = .ok (.i2l, 1) := by decide +kernel
theorem dX1_openAddress_87 : decode cX1_openAddress 87 = .ok (.lastore, 1) := by decide +kernel
theorem dX1_openAddress_88 : decode cX1_openAddress 88 = .ok (.aload_n 0, 1) := by decide +kernel
theorem dX1_openAddress_89 : decode cX1_openAddress 89 = .ok (.getfield 20, 3) := by decide +kernel
theorem dX1_openAddress_92 : decode cX1_openAddress 92 = .ok (.bipush 6, 2) := by decide +kernel
theorem dX1_openAddress_94 : decode cX1_openAddress 94 = .ok (.lconst 1, 1) := by decide +kernel
theorem dX1_openAddress_95 : decode cX1_openAddress 95 = .ok (.lastore, 1) := by decide +kernel
theorem dX1_openAddress_96 : decode cX1_openAddress 96 = .ok (.return_, 1) := by decide +kernel
theorem dX1_farBlock_0 : decode cX1_farBlock 0 = .ok (.aload_n 0, 1) := by decide +kernel
theorem dX1_farBlock_1 : decode cX1_farBlock 1 = .ok (.invokevirtual 103, 3) := by decide +kernel
theorem dX1_farBlock_4 : decode cX1_farBlock 4 = .ok (.ifCond .ne 11, 3) := by decide +kernel
theorem dX1_farBlock_7 : decode cX1_farBlock 7 = .ok (.aload_n 0, 1) := by decide +kernel
theorem dX1_farBlock_8 : decode cX1_farBlock 8 = .ok (.getfield 38, 3) := by decide +kernel
theorem dX1_farBlock_11 : decode cX1_farBlock 11 = .ok (.iconst 2, 1) := by decide +kernel
theorem dX1_farBlock_12 : decode cX1_farBlock 12 = .ok (.if_icmp .ge 10, 3) := by decide +kernel
theorem dX1_farBlock_15 : decode cX1_farBlock 15 = .ok (.aload_n 0, 1) := by decide +kernel
theorem dX1_farBlock_16 : decode cX1_farBlock 16 = .ok (.getfield 83, 3) := by decide +kernel
theorem dX1_farBlock_19 : decode cX1_farBlock 19 = .ok (.goto 14, 3) := by decide +kernel
theorem dX1_farBlock_22 : decode cX1_farBlock 22 = .ok (.lload_n 2, 1) := by decide +kernel
theorem dX1_farBlock_23 : decode cX1_farBlock 23 = .ok (.bipush 32, 2) := by decide +kernel
theorem dX1_farBlock_25 : decode cX1_farBlock 25 = .ok (.lushr, 1) := by decide +kernel
theorem dX1_farBlock_26 : decode cX1_farBlock 26 = .ok (.aload_n 0, 1) := by decide +kernel
theorem dX1_farBlock_27 : decode cX1_farBlock 27 = .ok (.getfield 38, 3) := by decide +kernel
theorem dX1_farBlock_30 : decode cX1_farBlock 30 = .ok (.i2l, 1) := by decide +kernel
theorem dX1_farBlock_31 : decode cX1_farBlock 31 = .ok (.lrem, 1) := by decide +kernel
theorem dX1_farBlock_32 : decode cX1_farBlock 32 = .ok (.l2i, 1) := by decide +kernel
theorem dX1_farBlock_33 : decode cX1_farBlock 33 = .ok (.istore 4, 2) := by decide +kernel
theorem dX1_farBlock_35 : decode cX1_farBlock 35 = .ok (.aload_n 0, 1) := by decide +kernel
theorem dX1_farBlock_36 : decode cX1_farBlock 36 = .ok (.getfield 89, 3) := by decide +kernel
theorem dX1_farBlock_39 : decode cX1_farBlock 39 = .ok (.ifCond .ne 15, 3) := by decide +kernel
theorem dX1_farBlock_42 : decode cX1_farBlock 42 = .ok (.aload_n 0, 1) := by decide +kernel
theorem dX1_farBlock_43 : decode cX1_farBlock 43 = .ok (.getfield 86, 3) := by decide +kernel
theorem dX1_farBlock_46 : decode cX1_farBlock 46 = .ok (.aload_n 0, 1) := by decide +kernel
theorem dX1_farBlock_47 : decode cX1_farBlock 47 = .ok (.getfield 47, 3) := by decide +kernel
theorem dX1_farBlock_50 : decode cX1_farBlock 50 = .ok (.imul, 1) := by decide +kernel
theorem dX1_farBlock_51 : decode cX1_farBlock 51 = .ok (.goto 12, 3) := by decide +kernel
theorem dX1_farBlock_54 : decode cX1_farBlock 54 = .ok (.aload_n 0, 1) := by decide +kernel
theorem dX1_farBlock_55 : decode cX1_farBlock 55 = .ok (.getfield 50, 3) := by decide +kernel
theorem dX1_farBlock_58 : decode cX1_farBlock 58 = .ok (.aload_n 0, 1) := by decide +kernel
theorem dX1_farBlock_59 : decode cX1_farBlock 59 = .ok (.getfield 47, 3) := by decide +kernel
theorem dX1_farBlock_62 : decode cX1_farBlock 62 = .ok (.isub, 1) := by decide +kernel
theorem dX1_farBlock_63 : decode cX1_farBlock 63 = .ok (.istore 5, 2) := by decide +kernel
theorem dX1_farBlock_65 : decode cX1_farBlock 65 = .ok (.iload 5, 2) := by decide +kernel
theorem dX1_farBlock_67 : decode cX1_farBlock 67 = .ok (.iload_n 1, 1) := by decide +kernel
theorem dX1_farBlock_68 : decode cX1_farBlock 68 = .ok (.ifCond .ne 7, 3) := by decide +kernel
theorem dX1_farBlock_71 : decode cX1_farBlock 71 = .ok (.iconst 1, 1) := by decide +kernel
theorem dX1_farBlock_72 : decode cX1_farBlock 72 = .ok (.goto 4, 3) := by decide +kernel
theorem dX1_farBlock_75 : decode cX1_farBlock 75 = .ok (.iconst 0, 1) := by decide +kernel
theorem dX1_farBlock_76 : decode cX1_farBlock 76 = .ok (.isub, 1) := by decide +kernel
theorem dX1_farBlock_77 : decode cX1_farBlock 77 = .ok (.i2l, 1) := by decide +kernel
theorem dX1_farBlock_78 : decode cX1_farBlock 78 = .ok (.lstore 6, 2) := by decide +kernel
theorem dX1_farBlock_80 : decode cX1_farBlock 80 = .ok (.iload 4, 2) := by decide +kernel
theorem dX1_farBlock_82 : decode cX1_farBlock 82 = .ok (.aload_n 0, 1) := by decide +kernel
theorem dX1_farBlock_83 : decode cX1_farBlock 83 = .ok (.getfield 83, 3) := by decide +kernel
theorem dX1_farBlock_86 : decode cX1_farBlock 86 = .ok (.if_icmp .ne 12, 3) := by decide +kernel
theorem dX1_farBlock_89 : decode cX1_farBlock 89 = .ok (.iload 5, 2) := by decide +kernel
theorem dX1_farBlock_91 : decode cX1_farBlock 91 = .ok (.iload_n 1, 1) := by decide +kernel
theorem dX1_farBlock_92 : decode cX1_farBlock 92 = .ok (.iadd, 1) := by decide +kernel
theorem dX1_farBlock_93 : decode cX1_farBlock 93 = .ok (.iconst 1, 1) := by decide +kernel
theorem dX1_farBlock_94 : decode cX1_farBlock 94 = .ok (.isub, 1) := by decide +kernel
theorem dX1_farBlock_95 : decode cX1_farBlock 95 = .ok (.i2l, 1) := by decide +kernel
theorem dX1_farBlock_96 : decode cX1_farBlock 96 = .ok (.lstore 6, 2) := by decide +kernel
theorem dX1_farBlock_98 : decode cX1_farBlock 98 = .ok (.lload_n 2, 1) := by decide +kernel
theorem dX1_farBlock_99 : decode cX1_farBlock 99 = .ok (.ldc2_w 110, 3) := by decide +kernel
theorem dX1_farBlock_102 : decode cX1_farBlock 102 = .ok (.land, 1) := by decide +kernel
theorem dX1_farBlock_103 : decode cX1_farBlock 103 = .ok (.lstore 8, 2) := by decide +kernel
theorem dX1_farBlock_105 : decode cX1_farBlock 105 = .ok (.lload 8, 2) := by decide +kernel
theorem dX1_farBlock_107 : decode cX1_farBlock 107 = .ok (.lload 8, 2) := by decide +kernel
theorem dX1_farBlock_109 : decode cX1_farBlock 109 = .ok (.lmul, 1) := by decide +kernel
theorem dX1_farBlock_110 : decode cX1_farBlock 110 = .ok (.bipush 32, 2) := by decide +kernel
theorem dX1_farBlock_112 : decode cX1_farBlock 112 = .ok (.lushr, 1) := by decide +kernel
theorem dX1_farBlock_113 : decode cX1_farBlock 113 = .ok (.lstore 10, 2) := by decide +kernel
theorem dX1_farBlock_115 : decode cX1_farBlock 115 = .ok (.lload 6, 2) := by decide +kernel
theorem dX1_farBlock_117 : decode cX1_farBlock 117 = .ok (.lconst 1, 1) := by decide +kernel
theorem dX1_farBlock_118 : decode cX1_farBlock 118 = .ok (.lsub, 1) := by decide +kernel
theorem dX1_farBlock_119 : decode cX1_farBlock 119 = .ok (.lload 6, 2) := by decide +kernel
theorem dX1_farBlock_121 : decode cX1_farBlock 121 = .ok (.lload 10, 2) := by decide +kernel
theorem dX1_farBlock_123 : decode cX1_farBlock 123 = .ok (.lmul, 1) := by decide +kernel
theorem dX1_farBlock_124 : decode cX1_farBlock 124 = .ok (.bipush 32, 2) := by decide +kernel
theorem dX1_farBlock_126 : decode cX1_farBlock 126 = .ok (.lushr, 1) := by decide +kernel
theorem dX1_farBlock_127 : decode cX1_farBlock 127 = .ok (.lsub, 1) := by decide +kernel
theorem dX1_farBlock_128 : decode cX1_farBlock 128 = .ok (.l2i, 1) := by decide +kernel
theorem dX1_farBlock_129 : decode cX1_farBlock 129 = .ok (.istore 12, 2) := by decide +kernel
theorem dX1_farBlock_131 : decode cX1_farBlock 131 = .ok (.aload_n 0, 1) := by decide +kernel
theorem dX1_farBlock_132 : decode cX1_farBlock 132 = .ok (.getfield 89, 3) := by decide +kernel
theorem dX1_farBlock_135 : decode cX1_farBlock 135 = .ok (.ifCond .eq 11, 3) := by decide +kernel
theorem dX1_farBlock_138 : decode cX1_farBlock 138 = .ok (.aload_n 0, 1) := by decide +kernel
theorem dX1_farBlock_139 : decode cX1_farBlock 139 = .ok (.getfield 86, 3) := by decide +kernel
theorem dX1_farBlock_142 : decode cX1_farBlock 142 = .ok (.iconst 3, 1) := by decide +kernel
theorem dX1_farBlock_143 : decode cX1_farBlock 143 = .ok (.if_icmp .ne 7, 3) := by decide +kernel
theorem dX1_farBlock_146 : decode cX1_farBlock 146 = .ok (.iconst 0, 1) := by decide +kernel
theorem dX1_farBlock_147 : decode cX1_farBlock 147 = .ok (.goto 14, 3) := by decide +kernel
theorem dX1_farBlock_150 : decode cX1_farBlock 150 = .ok (.aload_n 0, 1) := by decide +kernel
theorem dX1_farBlock_151 : decode cX1_farBlock 151 = .ok (.getfield 86, 3) := by decide +kernel
theorem dX1_farBlock_154 : decode cX1_farBlock 154 = .ok (.iconst 1, 1) := by decide +kernel
theorem dX1_farBlock_155 : decode cX1_farBlock 155 = .ok (.iadd, 1) := by decide +kernel
theorem dX1_farBlock_156 : decode cX1_farBlock 156 = .ok (.aload_n 0, 1) := by decide +kernel
theorem dX1_farBlock_157 : decode cX1_farBlock 157 = .ok (.getfield 47, 3) := by decide +kernel
theorem dX1_farBlock_160 : decode cX1_farBlock 160 = .ok (.imul, 1) := by decide +kernel
theorem dX1_farBlock_161 : decode cX1_farBlock 161 = .ok (.istore 13, 2) := by decide +kernel
theorem dX1_farBlock_163 : decode cX1_farBlock 163 = .ok (.iload 13, 2) := by decide +kernel
theorem dX1_farBlock_165 : decode cX1_farBlock 165 = .ok (.iload 12, 2) := by decide +kernel
theorem dX1_farBlock_167 : decode cX1_farBlock 167 = .ok (.iadd, 1) := by decide +kernel
theorem dX1_farBlock_168 : decode cX1_farBlock 168 = .ok (.istore 14, 2) := by decide +kernel
theorem dX1_farBlock_170 : decode cX1_farBlock 170 = .ok (.iload 4, 2) := by decide +kernel
theorem dX1_farBlock_172 : decode cX1_farBlock 172 = .ok (.aload_n 0, 1) := by decide +kernel
theorem dX1_farBlock_173 : decode cX1_farBlock 173 = .ok (.getfield 50, 3) := by decide +kernel
theorem dX1_farBlock_176 : decode cX1_farBlock 176 = .ok (.imul, 1) := by decide +kernel
theorem dX1_farBlock_177 : decode cX1_farBlock 177 = .ok (.iload 14, 2) := by decide +kernel
theorem dX1_farBlock_179 : decode cX1_farBlock 179 = .ok (.aload_n 0, 1) := by decide +kernel
theorem dX1_farBlock_180 : decode cX1_farBlock 180 = .ok (.getfield 50, 3) := by decide +kernel
theorem dX1_farBlock_183 : decode cX1_farBlock 183 = .ok (.if_icmp .ge 8, 3) := by decide +kernel
theorem dX1_farBlock_186 : decode cX1_farBlock 186 = .ok (.iload 14, 2) := by decide +kernel
theorem dX1_farBlock_188 : decode cX1_farBlock 188 = .ok (.goto 10, 3) := by decide +kernel
theorem dX1_farBlock_191 : decode cX1_farBlock 191 = .ok (.iload 14, 2) := by decide +kernel
theorem dX1_farBlock_193 : decode cX1_farBlock 193 = .ok (.aload_n 0, 1) := by decide +kernel
theorem dX1_farBlock_194 : decode cX1_farBlock 194 = .ok (.getfield 50, 3) := by decide +kernel
theorem dX1_farBlock_197 : decode cX1_farBlock 197 = .ok (.isub, 1) := by decide +kernel
theorem dX1_farBlock_198 : decode cX1_farBlock 198 = .ok (.iadd, 1) := by decide +kernel
theorem dX1_farBlock_199 : decode cX1_farBlock 199 = .ok (.ireturn, 1) := by decide +kernel
theorem dX1_blockOf_0 : decode cX1_blockOf 0 = .ok (.iload_n 1, 1) := by decide +kernel
theorem dX1_blockOf_1 : decode cX1_blockOf 1 = .ok (.ifCond .lt 19, 3) := by decide +kernel
theorem dX1_blockOf_4 : decode cX1_blockOf 4 = .ok (.iload_n 1, 1) := by decide +kernel
theorem dX1_blockOf_5 : decode cX1_blockOf 5 = .ok (.sipush 128, 3) := by decide +kernel
theorem dX1_blockOf_8 : decode cX1_blockOf 8 = .ok (.if_icmp .ge 12, 3) := by decide +kernel
theorem dX1_blockOf_11 : decode cX1_blockOf 11 = .ok (.aload_n 0, 1) := by decide +kernel
theorem dX1_blockOf_12 : decode cX1_blockOf 12 = .ok (.getfield 11, 3) := by decide +kernel
theorem dX1_blockOf_15 : decode cX1_blockOf 15 = .ok (.iload_n 1, 1) := by decide +kernel
theorem dX1_blockOf_16 : decode cX1_blockOf 16 = .ok (.aaload, 1) := by decide +kernel
theorem dX1_blockOf_17 : decode cX1_blockOf 17 = .ok (.goto 7, 3) := by decide +kernel
theorem dX1_blockOf_20 : decode cX1_blockOf 20 = .ok (.aload_n 0, 1) := by decide +kernel
theorem dX1_blockOf_21 : decode cX1_blockOf 21 = .ok (.getfield 16, 3) := by decide +kernel
theorem dX1_blockOf_24 : decode cX1_blockOf 24 = .ok (.areturn, 1) := by decide +kernel
theorem dX2_init_0 : decode cX2_init 0 = .ok (.aload_n 0, 1) := by decide +kernel
theorem dX2_init_1 : decode cX2_init 1 = .ok (.invokespecial 3, 3) := by decide +kernel
theorem dX2_init_4 : decode cX2_init 4 = .ok (.aload_n 0, 1) := by decide +kernel
theorem dX2_init_5 : decode cX2_init 5 = .ok (.new 9, 3) := by decide +kernel
theorem dX2_init_8 : decode cX2_init 8 = .ok (.dup, 1) := by decide +kernel
theorem dX2_init_9 : decode cX2_init 9 = .ok (.sipush 1028, 3) := by decide +kernel
theorem dX2_init_12 : decode cX2_init 12 = .ok (.invokespecial 13, 3) := by decide +kernel
theorem dX2_init_15 : decode cX2_init 15 = .ok (.putfield 16, 3) := by decide +kernel
theorem dX2_init_18 : decode cX2_init 18 = .ok (.aload_n 0, 1) := by decide +kernel
theorem dX2_init_19 : decode cX2_init 19 = .ok (.new 9, 3) := by decide +kernel
theorem dX2_init_22 : decode cX2_init 22 = .ok (.dup, 1) := by decide +kernel
theorem dX2_init_23 : decode cX2_init 23 = .ok (.sipush 1024, 3) := by decide +kernel
theorem dX2_init_26 : decode cX2_init 26 = .ok (.invokespecial 13, 3) := by decide +kernel
theorem dX2_init_29 : decode cX2_init 29 = .ok (.putfield 20, 3) := by decide +kernel
theorem dX2_init_32 : decode cX2_init 32 = .ok (.aload_n 0, 1) := by decide +kernel
theorem dX2_init_33 : decode cX2_init 33 = .ok (.bipush 8, 2) := by decide +kernel
theorem dX2_init_35 : decode cX2_init 35 = .ok (.newarray .long, 2) := by decide +kernel
theorem dX2_init_37 : decode cX2_init 37 = .ok (.putfield 23, 3) := by decide +kernel
theorem dX2_init_40 : decode cX2_init 40 = .ok (.aload_n 0, 1) := by decide +kernel
theorem dX2_init_41 : decode cX2_init 41 = .ok (.bipush 16, 2) := by decide +kernel
theorem dX2_init_43 : decode cX2_init 43 = .ok (.newarray .long, 2) := by decide +kernel
theorem dX2_init_45 : decode cX2_init 45 = .ok (.putfield 27, 3) := by decide +kernel
theorem dX2_init_48 : decode cX2_init 48 = .ok (.aload_n 0, 1) := by decide +kernel
theorem dX2_init_49 : decode cX2_init 49 = .ok (.bipush 16, 2) := by decide +kernel
theorem dX2_init_51 : decode cX2_init 51 = .ok (.newarray .long, 2) := by decide +kernel
theorem dX2_init_53 : decode cX2_init 53 = .ok (.putfield 30, 3) := by decide +kernel
theorem dX2_init_56 : decode cX2_init 56 = .ok (.return_, 1) := by decide +kernel
theorem dX2_openWithKey_0 : decode cX2_openWithKey 0 = .ok (.aload_n 0, 1) := by decide +kernel
theorem dX2_openWithKey_1 : decode cX2_openWithKey 1 = .ok (.getfield 16, 3) := by decide +kernel
theorem dX2_openWithKey_4 : decode cX2_openWithKey 4 = .ok (.invokevirtual 33, 3) := by decide +kernel
theorem dX2_openWithKey_7 : decode cX2_openWithKey 7 = .ok (.aload_n 1, 1) := by decide +kernel
theorem dX2_openWithKey_8 : decode cX2_openWithKey 8 = .ok (.getfield 36, 3) := by decide +kernel
theorem dX2_openWithKey_11 : decode cX2_openWithKey 11 = .ok (.ifCond .ne 4, 3) := by decide +kernel
theorem dX2_openWithKey_14 : decode cX2_openWithKey 14 = .ok (.return_, 1) := by decide +kernel
theorem dX2_openWithKey_15 : decode cX2_openWithKey 15 = .ok (.aload_n 0, 1) := by decide +kernel
theorem dX2_openWithKey_16 : decode cX2_openWithKey 16 = .ok (.getfield 16, 3) := by decide +kernel
theorem dX2_openWithKey_19 : decode cX2_openWithKey 19 = .ok (.aload_n 1, 1) := by decide +kernel
theorem dX2_openWithKey_20 : decode cX2_openWithKey 20 = .ok (.invokevirtual 40, 3) := by decide +kernel
theorem dX2_openWithKey_23 : decode cX2_openWithKey 23 = .ok (.aload_n 1, 1) := by decide +kernel
theorem dX2_openWithKey_24 : decode cX2_openWithKey 24 = .ok (.getfield 36, 3) := by decide +kernel
theorem dX2_openWithKey_27 : decode cX2_openWithKey 27 = .ok (.istore_n 2, 1) := by decide +kernel
theorem dX2_openWithKey_28 : decode cX2_openWithKey 28 = .ok (.iload_n 2, 1) := by decide +kernel
theorem dX2_openWithKey_29 : decode cX2_openWithKey 29 = .ok (.sipush 128, 3) := by decide +kernel
theorem dX2_openWithKey_32 : decode cX2_openWithKey 32 = .ok (.if_icmp .ge 17, 3) := by decide +kernel
theorem dX2_openWithKey_35 : decode cX2_openWithKey 35 = .ok (.aload_n 0, 1) := by decide +kernel
theorem dX2_openWithKey_36 : decode cX2_openWithKey 36 = .ok (.getfield 16, 3) := by decide +kernel
theorem dX2_openWithKey_39 : decode cX2_openWithKey 39 = .ok (.iconst 0, 1) := by decide +kernel
theorem dX2_openWithKey_40 : decode cX2_openWithKey 40 = .ok (.invokevirtual 44, 3) := by decide +kernel
theorem dX2_openWithKey_43 : decode cX2_openWithKey 43 = .ok (.iinc 2 1, 3) := by decide +kernel
theorem dX2_openWithKey_46 : decode cX2_openWithKey 46 = .ok (.goto (-18), 3) := by decide +kernel
theorem dX2_openWithKey_49 : decode cX2_openWithKey 49 = .ok (.return_, 1) := by decide +kernel
theorem dX2_openLong_0 : decode cX2_openLong 0 = .ok (.aload_n 0, 1) := by decide +kernel
theorem dX2_openLong_1 : decode cX2_openLong 1 = .ok (.getfield 16, 3) := by decide +kernel
theorem dX2_openLong_4 : decode cX2_openLong 4 = .ok (.invokevirtual 33, 3) := by decide +kernel
theorem dX2_openLong_7 : decode cX2_openLong 7 = .ok (.aload_n 0, 1) := by decide +kernel
theorem dX2_openLong_8 : decode cX2_openLong 8 = .ok (.getfield 16, 3) := by decide +kernel
theorem dX2_openLong_11 : decode cX2_openLong 11 = .ok (.iload_n 1, 1) := by decide +kernel
theorem dX2_openLong_12 : decode cX2_openLong 12 = .ok (.i2l, 1) := by decide +kernel
theorem dX2_openLong_13 : decode cX2_openLong 13 = .ok (.iconst 4, 1) := by decide +kernel
theorem dX2_openLong_14 : decode cX2_openLong 14 = .ok (.invokevirtual 47, 3) := by decide +kernel
theorem dX2_openLong_17 : decode cX2_openLong 17 = .ok (.return_, 1) := by decide +kernel
