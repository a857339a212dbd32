theorem dX3_mixHard_0 : decode cX3_mixHard 0 = .ok (.getstatic 29, 3) := by decide +kernel
theorem dX3_mixHard_3 : decode cX3_mixHard 3 = .ok (.iload_n 1, 1) := by decide +kernel
theorem dX3_mixHard_4 : decode cX3_mixHard 4 = .ok (.iaload, 1) := by decide +kernel
theorem dX3_mixHard_5 : decode cX3_mixHard 5 = .ok (.istore_n 2, 1) := by decide +kernel
theorem dX3_mixHard_6 : decode cX3_mixHard 6 = .ok (.getstatic 29, 3) := by decide +kernel
theorem dX3_mixHard_9 : decode cX3_mixHard 9 = .ok (.iload_n 1, 1) := by decide +kernel
theorem dX3_mixHard_10 : decode cX3_mixHard 10 = .ok (.iconst 1, 1) := by decide +kernel
theorem dX3_mixHard_11 : decode cX3_mixHard 11 = .ok (.iadd, 1) := by decide +kernel
theorem dX3_mixHard_12 : decode cX3_mixHard 12 = .ok (.iaload, 1) := by decide +kernel
theorem dX3_mixHard_13 : decode cX3_mixHard 13 = .ok (.istore_n 3, 1) := by decide +kernel
theorem dX3_mixHard_14 : decode cX3_mixHard 14 = .ok (.getstatic 29, 3) := by decide +kernel
theorem dX3_mixHard_17 : decode cX3_mixHard 17 = .ok (.iload_n 1, 1) := by decide +kernel
theorem dX3_mixHard_18 : decode cX3_mixHard 18 = .ok (.iconst 2, 1) := by decide +kernel
theorem dX3_mixHard_19 : decode cX3_mixHard 19 = .ok (.iadd, 1) := by decide +kernel
theorem dX3_mixHard_20 : decode cX3_mixHard 20 = .ok (.iaload, 1) := by decide +kernel
theorem dX3_mixHard_21 : decode cX3_mixHard 21 = .ok (.istore 4, 2) := by decide +kernel
theorem dX3_mixHard_23 : decode cX3_mixHard 23 = .ok (.getstatic 29, 3) := by decide +kernel
theorem dX3_mixHard_26 : decode cX3_mixHard 26 = .ok (.iload_n 1, 1) := by decide +kernel
theorem dX3_mixHard_27 : decode cX3_mixHard 27 = .ok (.iconst 3, 1) := by decide +kernel
theorem dX3_mixHard_28 : decode cX3_mixHard 28 = .ok (.iadd, 1) := by decide +kernel
theorem dX3_mixHard_29 : decode cX3_mixHard 29 = .ok (.iaload, 1) := by decide +kernel
theorem dX3_mixHard_30 : decode cX3_mixHard 30 = .ok (.istore 5, 2) := by decide +kernel
theorem dX3_mixHard_32 : decode cX3_mixHard 32 = .ok (.aload_n 0, 1) := by decide +kernel
theorem dX3_mixHard_33 : decode cX3_mixHard 33 = .ok (.getfield 18, 3) := by decide +kernel
theorem dX3_mixHard_36 : decode cX3_mixHard 36 = .ok (.iload_n 2, 1) := by decide +kernel
theorem dX3_mixHard_37 : decode cX3_mixHard 37 = .ok (.aload_n 0, 1) := by decide +kernel
theorem dX3_mixHard_38 : decode cX3_mixHard 38 = .ok (.getfield 18, 3) := by decide +kernel
theorem dX3_mixHard_41 : decode cX3_mixHard 41 = .ok (.iload_n 2, 1) := by decide +kernel
theorem dX3_mixHard_42 : decode cX3_mixHard 42 = .ok (.laload, 1) := by decide +kernel
theorem dX3_mixHard_43 : decode cX3_mixHard 43 = .ok (.aload_n 0, 1) := by decide +kernel
theorem dX3_mixHard_44 : decode cX3_mixHard 44 = .ok (.getfield 18, 3) := by decide +kernel
theorem dX3_mixHard_47 : decode cX3_mixHard 47 = .ok (.iload_n 3, 1) := by decide +kernel
theorem dX3_mixHard_48 : decode cX3_mixHard 48 = .ok (.laload, 1) := by decide +kernel
theorem dX3_mixHard_49 : decode cX3_mixHard 49 = .ok (.invokestatic 33, 3) := by decide +kernel
theorem dX3_mixHard_52 : decode cX3_mixHard 52 = .ok (.lastore, 1) := by decide +kernel
theorem dX3_mixHard_53 : decode cX3_mixHard 53 = .ok (.aload_n 0, 1) := by decide +kernel
theorem dX3_mixHard_54 : decode cX3_mixHard 54 = .ok (.getfield 18, 3) := by decide +kernel
theorem dX3_mixHard_57 : decode cX3_mixHard 57 = .ok (.iload 5, 2) := by decide +kernel
theorem dX3_mixHard_59 : decode cX3_mixHard 59 = .ok (.aload_n 0, 1) := by decide +kernel
theorem dX3_mixHard_60 : decode cX3_mixHard 60 = .ok (.getfield 18, 3) := by decide +kernel
theorem dX3_mixHard_63 : decode cX3_mixHard 63 = .ok (.iload 5, 2) := by decide +kernel
theorem dX3_mixHard_65 : decode cX3_mixHard 65 = .ok (.laload, 1) := by decide +kernel
theorem dX3_mixHard_66 : decode cX3_mixHard 66 = .ok (.aload_n 0, 1) := by decide +kernel
theorem dX3_mixHard_67 : decode cX3_mixHard 67 = .ok (.getfield 18, 3) := by decide +kernel
theorem dX3_mixHard_70 : decode cX3_mixHard 70 = .ok (.iload_n 2, 1) := by decide +kernel
theorem dX3_mixHard_71 : decode cX3_mixHard 71 = .ok (.laload, 1) := by decide +kernel
theorem dX3_mixHard_72 : decode cX3_mixHard 72 = .ok (.lxor, 1) := by decide +kernel
theorem dX3_mixHard_73 : decode cX3_mixHard 73 = .ok (.bipush 32, 2) := by decide +kernel
theorem dX3_mixHard_75 : decode cX3_mixHard 75 = .ok (.invokestatic 37, 3) := by decide +kernel
theorem dX3_mixHard_78 : decode cX3_mixHard 78 = .ok (.lastore, 1) := by decide +kernel
theorem dX3_mixHard_79 : decode cX3_mixHard 79 = .ok (.aload_n 0, 1) := by decide +kernel
theorem dX3_mixHard_80 : decode cX3_mixHard 80 = .ok (.getfield 18, 3) := by decide +kernel
theorem dX3_mixHard_83 : decode cX3_mixHard 83 = .ok (.iload 4, 2) := by decide +kernel
theorem dX3_mixHard_85 : decode cX3_mixHard 85 = .ok (.aload_n 0, 1) := by decide +kernel
theorem dX3_mixHard_86 : decode cX3_mixHard 86 = .ok (.getfield 18, 3) := by decide +kernel
theorem dX3_mixHard_89 : decode cX3_mixHard 89 = .ok (.iload 4, 2) := by decide +kernel
theorem dX3_mixHard_91 : decode cX3_mixHard 91 = .ok (.laload, 1) := by decide +kernel
theorem dX3_mixHard_92 : decode cX3_mixHard 92 = .ok (.aload_n 0, 1) := by decide +kernel
theorem dX3_mixHard_93 : decode cX3_mixHard 93 = .ok (.getfield 18, 3) := by decide +kernel
theorem dX3_mixHard_96 : decode cX3_mixHard 96 = .ok (.iload 5, 2) := by decide +kernel
theorem dX3_mixHard_98 : decode cX3_mixHard 98 = .ok (.laload, 1) := by decide +kernel
theorem dX3_mixHard_99 : decode cX3_mixHard 99 = .ok (.invokestatic 33, 3) := by decide +kernel
theorem dX3_mixHard_102 : decode cX3_mixHard 102 = .ok (.lastore, 1) := by decide +kernel
theorem dX3_mixHard_103 : decode cX3_mixHard 103 = .ok (.aload_n 0, 1) := by decide +kernel
theorem dX3_mixHard_104 : decode cX3_mixHard 104 = .ok (.getfield 18, 3) := by decide +kernel
theorem dX3_mixHard_107 : decode cX3_mixHard 107 = .ok (.iload_n 3, 1) := by decide +kernel
theorem dX3_mixHard_108 : decode cX3_mixHard 108 = .ok (.aload_n 0, 1) := by decide +kernel
theorem dX3_mixHard_109 : decode cX3_mixHard 109 = .ok (.getfield 18, 3) := by decide +kernel
theorem dX3_mixHard_112 : decode cX3_mixHard 112 = .ok (.iload_n 3, 1) := by decide +kernel
theorem dX3_mixHard_113 : decode cX3_mixHard 113 = .ok (.laload, 1) := by decide +kernel
theorem dX3_mixHard_114 : decode cX3_mixHard 114 = .ok (.aload_n 0, 1) := by decide +kernel
theorem dX3_mixHard_115 : decode cX3_mixHard 115 = .ok (.getfield 18, 3) := by decide +kernel
theorem dX3_mixHard_118 : decode cX3_mixHard 118 = .ok (.iload 4, 2) := by decide +kernel
theorem dX3_mixHard_120 : decode cX3_mixHard 120 = .ok (.laload, 1) := by decide +kernel
theorem dX3_mixHard_121 : decode cX3_mixHard 121 = .ok (.lxor, 1) := by decide +kernel
theorem dX3_mixHard_122 : decode cX3_mixHard 122 = .ok (.bipush 24, 2) := by decide +kernel
theorem dX3_mixHard_124 : decode cX3_mixHard 124 = .ok (.invokestatic 37, 3) := by decide +kernel
theorem dX3_mixHard_127 : decode cX3_mixHard 127 = .ok (.lastore, 1) := by decide +kernel
theorem dX3_mixHard_128 : decode cX3_mixHard 128 = .ok (.aload_n 0, 1) := by decide +kernel
theorem dX3_mixHard_129 : decode cX3_mixHard 129 = .ok (.getfield 18, 3) := by decide +kernel
theorem dX3_mixHard_132 : decode cX3_mixHard 132 = .ok (.iload_n 2, 1) := by decide +kernel
theorem dX3_mixHard_133 : decode cX3_mixHard 133 = .ok (.aload_n 0, 1) := by decide +kernel
theorem dX3_mixHard_134 : decode cX3_mixHard 134 = .ok (.getfield 18, 3) := by decide +kernel
theorem dX3_mixHard_137 : decode cX3_mixHard 137 = .ok (.iload_n 2, 1) := by decide +kernel
theorem dX3_mixHard_138 : decode cX3_mixHard 138 = .ok (.laload, 1) := by decide +kernel
theorem dX3_mixHard_139 : decode cX3_mixHard 139 = .ok (.aload_n 0, 1) := by decide +kernel
theorem dX3_mixHard_140 : decode cX3_mixHard 140 = .ok (.getfield 18, 3) := by decide +kernel
theorem dX3_mixHard_143 : decode cX3_mixHard 143 = .ok (.iload_n 3, 1) := by decide +kernel
theorem dX3_mixHard_144 : decode cX3_mixHard 144 = .ok (.laload, 1) := by decide +kernel
theorem dX3_mixHard_145 : decode cX3_mixHard 145 = .ok (.invokestatic 33, 3) := by decide +kernel
theorem dX3_mixHard_148 : decode cX3_mixHard 148 = .ok (.lastore, 1) := by decide +kernel
theorem dX3_mixHard_149 : decode cX3_mixHard 149 = .ok (.aload_n 0, 1) := by decide +kernel
theorem dX3_mixHard_150 : decode cX3_mixHard 150 = .ok (.getfield 18, 3) := by decide +kernel
theorem dX3_mixHard_153 : decode cX3_mixHard 153 = .ok (.iload 5, 2) := by decide +kernel
theorem dX3_mixHard_155 : decode cX3_mixHard 155 = .ok (.aload_n 0, 1) := by decide +kernel
theorem dX3_mixHard_156 : decode cX3_mixHard 156 = .ok (.getfield 18, 3) := by decide +kernel
theorem dX3_mixHard_159 : decode cX3_mixHard 159 = .ok (.iload 5, 2) := by decide +kernel
theorem dX3_mixHard_161 : decode cX3_mixHard 161 = .ok (.laload, 1) := by decide +kernel
theorem dX3_mixHard_162 : decode cX3_mixHard 162 = .ok (.aload_n 0, 1) := by decide +kernel
theorem dX3_mixHard_163 : decode cX3_mixHard 163 = .ok (.getfield 18, 3) := by decide +kernel
theorem dX3_mixHard_166 : decode cX3_mixHard 166 = .ok (.iload_n 2, 1) := by decide +kernel
theorem dX3_mixHard_167 : decode cX3_mixHard 167 = .ok (.laload, 1) := by decide +kernel
theorem dX3_mixHard_168 : decode cX3_mixHard 168 = .ok (.lxor, 1) := by decide +kernel
theorem dX3_mixHard_169 : decode cX3_mixHard 169 = .ok (.bipush 16, 2) := by decide +kernel
theorem dX3_mixHard_171 : decode cX3_mixHard 171 = .ok (.invokestatic 37, 3) := by decide +kernel
theorem dX3_mixHard_174 : decode cX3_mixHard 174 = .ok (.lastore, 1) := by decide +kernel
theorem dX3_mixHard_175 : decode cX3_mixHard 175 = .ok (.aload_n 0, 1) := by decide +kernel
theorem dX3_mixHard_176 : decode cX3_mixHard 176 = .ok (.getfield 18, 3) := by decide +kernel
theorem dX3_mixHard_179 : decode cX3_mixHard 179 = .ok (.iload 4, 2) := by decide +kernel
theorem dX3_mixHard_181 : decode cX3_mixHard 181 = .ok (.aload_n 0, 1) := by decide +kernel
theorem dX3_mixHard_182 : decode cX3_mixHard 182 = .ok (.getfield 18, 3) := by decide +kernel
theorem dX3_mixHard_185 : decode cX3_mixHard 185 = .ok (.iload 4, 2) := by decide +kernel
theorem dX3_mixHard_187 : decode cX3_mixHard 187 = .ok (.laload, 1) := by decide +kernel
theorem dX3_mixHard_188 : decode cX3_mixHard 188 = .ok (.aload_n 0, 1) := by decide +kernel
theorem dX3_mixHard_189 : decode cX3_mixHard 189 = .ok (.getfield 18, 3) := by decide +kernel
theorem dX3_mixHard_192 : decode cX3_mixHard 192 = .ok (.iload 5, 2) := by decide +kernel
theorem dX3_mixHard_194 : decode cX3_mixHard 194 = .ok (.laload, 1) := by decide +kernel
theorem dX3_mixHard_195 : decode cX3_mixHard 195 = .ok (.invokestatic 33, 3) := by decide +kernel
theorem dX3_mixHard_198 : decode cX3_mixHard 198 = .ok (.lastore, 1) := by decide +kernel
theorem dX3_mixHard_199 : decode cX3_mixHard 199 = .ok (.aload_n 0, 1) := by decide +kernel
theorem dX3_mixHard_200 : decode cX3_mixHard 200 = .ok (.getfield 18, 3) := by decide +kernel
theorem dX3_mixHard_203 : decode cX3_mixHard 203 = .ok (.iload_n 3, 1) := by decide +kernel
theorem dX3_mixHard_204 : decode cX3_mixHard 204 = .ok (.aload_n 0, 1) := by decide +kernel
theorem dX3_mixHard_205 : decode cX3_mixHard 205 = .ok (.getfield 18, 3) := by decide +kernel
theorem dX3_mixHard_208 : decode cX3_mixHard 208 = .ok (.iload_n 3, 1) := by decide +kernel
theorem dX3_mixHard_209 : decode cX3_mixHard 209 = .ok (.laload, 1) := by decide +kernel
theorem dX3_mixHard_210 : decode cX3_mixHard 210 = .ok (.aload_n 0, 1) := by decide +kernel
theorem dX3_mixHard_211 : decode cX3_mixHard 211 = .ok (.getfield 18, 3) := by decide +kernel
theorem dX3_mixHard_214 : decode cX3_mixHard 214 = .ok (.iload 4, 2) := by decide +kernel
theorem dX3_mixHard_216 : decode cX3_mixHard 216 = .ok (.laload, 1) := by decide +kernel
theorem dX3_mixHard_217 : decode cX3_mixHard 217 = .ok (.lxor, 1) := by decide +kernel
theorem dX3_mixHard_218 : decode cX3_mixHard 218 = .ok (.bipush 63, 2) := by decide +kernel
theorem dX3_mixHard_220 : decode cX3_mixHard 220 = .ok (.invokestatic 37, 3) := by decide +kernel
theorem dX3_mixHard_223 : decode cX3_mixHard 223 = .ok (.lastore, 1) := by decide +kernel
theorem dX3_mixHard_224 : decode cX3_mixHard 224 = .ok (.return_, 1) := by decide +kernel
theorem dX3_sumHard_0 : decode cX3_sumHard 0 = .ok (.lload_n 0, 1) := by decide +kernel
theorem dX3_sumHard_1 : decode cX3_sumHard 1 = .ok (.lload_n 2, 1) := by decide +kernel
theorem dX3_sumHard_2 : decode cX3_sumHard 2 = .ok (.ladd, 1) := by decide +kernel
theorem dX3_sumHard_3 : decode cX3_sumHard 3 = .ok (.ldc2_w 41, 3) := by decide +kernel
theorem dX3_sumHard_6 : decode cX3_sumHard 6 = .ok (.lload_n 0, 1) := by decide +kernel
theorem dX3_sumHard_7 : decode cX3_sumHard 7 = .ok (.ldc2_w 43, 3) := by decide +kernel
theorem dX3_sumHard_10 : decode cX3_sumHard 10 = .ok (.land, 1) := by decide +kernel
theorem dX3_sumHard_11 : decode cX3_sumHard 11 = .ok (.lmul, 1) := by decide +kernel
theorem dX3_sumHard_12 : decode cX3_sumHard 12 = .ok (.lload_n 2, 1) := by decide +kernel
theorem dX3_sumHard_13 : decode cX3_sumHard 13 = .ok (.ldc2_w 43, 3) := by decide +kernel
theorem dX3_sumHard_16 : decode cX3_sumHard 16 = .ok (.land, 1) := by decide +kernel
theorem dX3_sumHard_17 : decode cX3_sumHard 17 = .ok (.lmul, 1) := by decide +kernel
theorem dX3_sumHard_18 : decode cX3_sumHard 18 = .ok (.ladd, 1) := by decide +kernel
theorem dX3_sumHard_19 : decode cX3_sumHard 19 = .ok (.lreturn, 1) := by decide +kernel
theorem dX4_init_0 : decode cX4_init 0 = .ok (.aload_n 0, 1) := by decide +kernel
theorem dX4_init_1 : decode cX4_init 1 = .ok (.invokespecial 3, 3) := by decide +kernel
theorem dX4_init_4 : decode cX4_init 4 = .ok (.aload_n 0, 1) := by decide +kernel
theorem dX4_init_5 : decode cX4_init 5 = .ok (.bipush 8, 2) := by decide +kernel
theorem dX4_init_7 : decode cX4_init 7 = .ok (.anewarray 9, 3) := by decide +kernel
theorem dX4_init_10 : decode cX4_init 10 = .ok (.putfield 11, 3) := by decide +kernel
theorem dX4_init_13 : decode cX4_init 13 = .ok (.aload_n 0, 1) := by decide +kernel
theorem dX4_init_14 : decode cX4_init 14 = .ok (.new 9, 3) := by decide +kernel
theorem dX4_init_17 : decode cX4_init 17 = .ok (.dup, 1) := by decide +kernel
theorem dX4_init_18 : decode cX4_init 18 = .ok (.iconst 0, 1) := by decide +kernel
theorem dX4_init_19 : decode cX4_init 19 = .ok (.invokespecial 15, 3) := by decide +kernel
theorem dX4_init_22 : decode cX4_init 22 = .ok (.putfield 18, 3) := by decide +kernel
theorem dX4_init_25 : decode cX4_init 25 = .ok (.aload_n 0, 1) := by decide +kernel
theorem dX4_init_26 : decode cX4_init 26 = .ok (.new 9, 3) := by decide +kernel
theorem dX4_init_29 : decode cX4_init 29 = .ok (.dup, 1) := by decide +kernel
theorem dX4_init_30 : decode cX4_init 30 = .ok (.bipush 64, 2) := by decide +kernel
theorem dX4_init_32 : decode cX4_init 32 = .ok (.invokespecial 15, 3) := by decide +kernel
theorem dX4_init_35 : decode cX4_init 35 = .ok (.putfield 22, 3) := by decide +kernel
theorem dX4_init_38 : decode cX4_init 38 = .ok (.aload_n 0, 1) := by decide +kernel
theorem dX4_init_39 : decode cX4_init 39 = .ok (.new 25, 3) := by decide +kernel
theorem dX4_init_42 : decode cX4_init 42 = .ok (.dup, 1) := by decide +kernel
theorem dX4_init_43 : decode cX4_init 43 = .ok (.invokespecial 27, 3) := by decide +kernel
theorem dX4_init_46 : decode cX4_init 46 = .ok (.putfield 28, 3) := by decide +kernel
theorem dX4_init_49 : decode cX4_init 49 = .ok (.aload_n 0, 1) := by decide +kernel
theorem dX4_init_50 : decode cX4_init 50 = .ok (.new 32, 3) := by decide +kernel
theorem dX4_init_53 : decode cX4_init 53 = .ok (.dup, 1) := by decide +kernel
theorem dX4_init_54 : decode cX4_init 54 = .ok (.invokespecial 34, 3) := by decide +kernel
theorem dX4_init_57 : decode cX4_init 57 = .ok (.putfield 35, 3) := by decide +kernel
theorem dX4_init_60 : decode cX4_init 60 = .ok (.iconst 0, 1) := by decide +kernel
theorem dX4_init_61 : decode cX4_init 61 = .ok (.istore_n 1, 1) := by decide +kernel
theorem dX4_init_62 : decode cX4_init 62 = .ok (.iload_n 1, 1) := by decide +kernel
theorem dX4_init_63 : decode cX4_init 63 = .ok (.bipush 8, 2) := by decide +kernel
theorem dX4_init_65 : decode cX4_init 65 = .ok (.if_icmp .ge 25, 3) := by decide +kernel
theorem dX4_init_68 : decode cX4_init 68 = .ok (.aload_n 0, 1) := by decide +kernel
theorem dX4_init_69 : decode cX4_init 69 = .ok (.getfield 11, 3) := by decide +kernel
theorem dX4_init_72 : decode cX4_init 72 = .ok (.iload_n 1, 1) := by decide +kernel
theorem dX4_init_73 : decode cX4_init 73 = .ok (.new 9, 3) := by decide +kernel
theorem dX4_init_76 : decode cX4_init 76 = .ok (.dup, 1) := by decide +kernel
theorem dX4_init_77 : decode cX4_init 77 = .ok (.sipush 200, 3) := by decide +kernel
theorem dX4_init_80 : decode cX4_init 80 = .ok (.invokespecial 15, 3) := by decide +kernel
theorem dX4_init_83 : decode cX4_init 83 = .ok (.aastore, 1) := by decide +kernel
theorem dX4_init_84 : decode cX4_init 84 = .ok (.iinc 1 1, 3) := by decide +kernel
theorem dX4_init_87 : decode cX4_init 87 = .ok (.goto (-25), 3) := by decide +kernel
theorem dX4_init_90 : decode cX4_init 90 = .ok (.return_, 1) := by decide +kernel
theorem dX4_add_0 : decode cX4_add 0 = .ok (.iload_n 1, 1) := by decide +kernel
theorem dX4_add_1 : decode cX4_add 1 = .ok (.invokestatic 39, 3) := by decide +kernel
theorem dX4_add_4 : decode cX4_add 4 = .ok (.ifCond .eq 14, 3) := by decide +kernel
theorem dX4_add_7 : decode cX4_add 7 = .ok (.iload_n 2, 1) := by decide +kernel
theorem dX4_add_8 : decode cX4_add 8 = .ok (.iconst 1, 1) := by decide +kernel
theorem dX4_add_9 : decode cX4_add 9 = .ok (.if_icmp .lt 9, 3) := by decide +kernel
theorem dX4_add_12 : decode cX4_add 12 = .ok (.iload_n 2, 1) := by decide +kernel
theorem dX4_add_13 : decode cX4_add 13 = .ok (.bipush 8, 2) := by decide +kernel
theorem dX4_add_15 : decode cX4_add 15 = .ok (.if_icmp .le 6, 3) := by decide +kernel
theorem dX4_add_18 : decode cX4_add 18 = .ok (.bipush (-2), 2) := by decide +kernel
theorem dX4_add_20 : decode cX4_add 20 = .ok (.ireturn, 1) := by decide +kernel
theorem dX4_add_21 : decode cX4_add 21 = .ok (.aload_n 0, 1) := by decide +kernel
theorem dX4_add_22 : decode cX4_add 22 = .ok (.iload_n 1, 1) := by decide +kernel
theorem dX4_add_23 : decode cX4_add 23 = .ok (.invokevirtual 43, 3) := by decide +kernel
theorem dX4_add_26 : decode cX4_add 26 = .ok (.astore 5, 2) := by decide +kernel
theorem dX4_add_28 : decode cX4_add 28 = .ok (.aload 5, 2) := by decide +kernel
theorem dX4_add_30 : decode cX4_add 30 = .ok (.getfield 47, 3) := by decide +kernel
theorem dX4_add_33 : decode cX4_add 33 = .ok (.iload_n 2, 1) := by decide +kernel
theorem dX4_add_34 : decode cX4_add 34 = .ok (.iadd, 1) := by decide +kernel
theorem dX4_add_35 : decode cX4_add 35 = .ok (.sipush 200, 3) := by decide +kernel
theorem dX4_add_38 : decode cX4_add 38 = .ok (.if_icmp .le 6, 3) := by decide +kernel
theorem dX4_add_41 : decode cX4_add 41 = .ok (.bipush (-3), 2) := by decide +kernel
theorem dX4_add_43 : decode cX4_add 43 = .ok (.ireturn, 1) := by decide +kernel
theorem dX4_add_44 : decode cX4_add 44 = .ok (.aload 5, 2) := by decide +kernel
theorem dX4_add_46 : decode cX4_add 46 = .ok (.lload_n 3, 1) := by decide +kernel
theorem dX4_add_47 : decode cX4_add 47 = .ok (.iload_n 2, 1) := by decide +kernel
theorem dX4_add_48 : decode cX4_add 48 = .ok (.invokevirtual 51, 3) := by decide +kernel
theorem dX4_add_51 : decode cX4_add 51 = .ok (.aload 5, 2) := by decide +kernel
theorem dX4_add_53 : decode cX4_add 53 = .ok (.getfield 47, 3) := by decide +kernel
theorem dX4_add_56 : decode cX4_add 56 = .ok (.ireturn, 1) := by decide +kernel
theorem dX4_clear_0 : decode cX4_clear 0 = .ok (.iload_n 1, 1) := by decide +kernel
theorem dX4_clear_1 : decode cX4_clear 1 = .ok (.invokestatic 39, 3) := by decide +kernel
theorem dX4_clear_4 : decode cX4_clear 4 = .ok (.ifCond .ne 6, 3) := by decide +kernel
theorem dX4_clear_7 : decode cX4_clear 7 = .ok (.bipush (-2), 2) := by decide +kernel
theorem dX4_clear_9 : decode cX4_clear 9 = .ok (.ireturn, 1) := by decide +kernel
theorem dX4_clear_10 : decode cX4_clear 10 = .ok (.aload_n 0, 1) := by decide +kernel
theorem dX4_clear_11 : decode cX4_clear 11 = .ok (.iload_n 1, 1) := by decide +kernel
theorem dX4_clear_12 : decode cX4_clear 12 = .ok (.invokevirtual 43, 3) := by decide +kernel
theorem dX4_clear_15 : decode cX4_clear 15 = .ok (.astore_n 2, 1) := by decide +kernel
theorem dX4_clear_16 : decode cX4_clear 16 = .ok (.aload_n 2, 1) := by decide +kernel
theorem dX4_clear_17 : decode cX4_clear 17 = .ok (.getfield 47, 3) := by decide +kernel
theorem dX4_clear_20 : decode cX4_clear 20 = .ok (.istore_n 3, 1) := by decide +kernel
theorem dX4_clear_21 : decode cX4_clear 21 = .ok (.aload_n 2, 1) := by decide +kernel
theorem dX4_clear_22 : decode cX4_clear 22 = .ok (.invokevirtual 55, 3) := by decide +kernel
theorem dX4_clear_25 : decode cX4_clear 25 = .ok (.iload_n 3, 1) := by decide +kernel
theorem dX4_clear_26 : decode cX4_clear 26 = .ok (.ireturn, 1) := by decide +kernel
theorem dX4_size_0 : decode cX4_size 0 = .ok (.iload_n 1, 1) := by decide +kernel
theorem dX4_size_1 : decode cX4_size 1 = .ok (.invokestatic 39, 3) := by decide +kernel
theorem dX4_size_4 : decode cX4_size 4 = .ok (.ifCond .eq 14, 3) := by decide +kernel
theorem dX4_size_7 : decode cX4_size 7 = .ok (.aload_n 0, 1) := by decide +kernel
theorem dX4_size_8 : decode cX4_size 8 = .ok (.iload_n 1, 1) := by decide +kernel
theorem dX4_size_9 : decode cX4_size 9 = .ok (.invokevirtual 43, 3) := by decide +kernel
theorem dX4_size_12 : decode cX4_size 12 = .ok (.getfield 47, 3) := by decide +kernel
theorem dX4_size_15 : decode cX4_size 15 = .ok (.goto 5, 3) := by decide +kernel
theorem dX4_size_18 : decode cX4_size 18 = .ok (.bipush (-2), 2) := by decide +kernel
theorem dX4_size_20 : decode cX4_size 20 = .ok (.ireturn, 1) := by decide +kernel
theorem dX4_at_0 : decode cX4_at 0 = .ok (.iload_n 1, 1) := by decide +kernel
theorem dX4_at_1 : decode cX4_at 1 = .ok (.invokestatic 39, 3) := by decide +kernel
theorem dX4_at_4 : decode cX4_at 4 = .ok (.ifCond .eq 15, 3) := by decide +kernel
theorem dX4_at_7 : decode cX4_at 7 = .ok (.aload_n 0, 1) := by decide +kernel
theorem dX4_at_8 : decode cX4_at 8 = .ok (.iload_n 1, 1) := by decide +kernel
theorem dX4_at_9 : decode cX4_at 9 = .ok (.invokevirtual 43, 3) := by decide +kernel
theorem dX4_at_12 : decode cX4_at 12 = .ok (.iload_n 2, 1) := by decide +kernel
theorem dX4_at_13 : decode cX4_at 13 = .ok (.invokevirtual 58, 3) := by decide +kernel
theorem dX4_at_16 : decode cX4_at 16 = .ok (.goto 5, 3) := by decide +kernel
theorem dX4_at_19 : decode cX4_at 19 = .ok (.bipush (-2), 2) := by decide +kernel
theorem dX4_at_21 : decode cX4_at 21 = .ok (.ireturn, 1) := by decide +kernel
theorem dX4_hash_0 : decode cX4_hash 0 = .ok (.iload_n 1, 1) := by decide +kernel
theorem dX4_hash_1 : decode cX4_hash 1 = .ok (.invokestatic 39, 3) := by decide +kernel
theorem dX4_hash_4 : decode cX4_hash 4 = .ok (.ifCond .eq 17, 3) := by decide +kernel
theorem dX4_hash_7 : decode cX4_hash 7 = .ok (.iload_n 2, 1) := by decide +kernel
theorem dX4_hash_8 : decode cX4_hash 8 = .ok (.invokestatic 39, 3) := by decide +kernel
theorem dX4_hash_11 : decode cX4_hash 11 = .ok (.ifCond .eq 10, 3) := by decide +kernel
theorem dX4_hash_14 : decode cX4_hash 14 = .ok (.iload_n 3, 1) := by decide +kernel
theorem dX4_hash_15 : decode cX4_hash 15 = .ok (.invokestatic 62, 3) := by decide +kernel
theorem dX4_hash_18 : decode cX4_hash 18 = .ok (.ifCond .ne 6, 3) := by decide +kernel
theorem dX4_hash_21 : decode cX4_hash 21 = .ok (.bipush (-2), 2) := by decide +kernel
theorem dX4_hash_23 : decode cX4_hash 23 = .ok (.ireturn, 1) := by decide +kernel
theorem dX4_hash_24 : decode cX4_hash 24 = .ok (.aload_n 0, 1) := by decide +kernel
theorem dX4_hash_25 : decode cX4_hash 25 = .ok (.iload_n 3, 1) := by decide +kernel
theorem dX4_hash_26 : decode cX4_hash 26 = .ok (.invokevirtual 43, 3) := by decide +kernel
theorem dX4_hash_29 : decode cX4_hash 29 = .ok (.astore 5, 2) := by decide +kernel
theorem dX4_hash_31 : decode cX4_hash 31 = .ok (.iload 4, 2) := by decide +kernel
theorem dX4_hash_33 : decode cX4_hash 33 = .ok (.iconst 1, 1) := by decide +kernel
theorem dX4_hash_34 : decode cX4_hash 34 = .ok (.if_icmp .lt 20, 3) := by decide +kernel
theorem dX4_hash_37 : decode cX4_hash 37 = .ok (.iload 4, 2) := by decide +kernel
theorem dX4_hash_39 : decode cX4_hash 39 = .ok (.bipush 64, 2) := by decide +kernel
theorem dX4_hash_41 : decode cX4_hash 41 = .ok (.if_icmp .gt 13, 3) := by decide +kernel
theorem dX4_hash_44 : decode cX4_hash 44 = .ok (.aload 5, 2) := by decide +kernel
theorem dX4_hash_46 : decode cX4_hash 46 = .ok (.getfield 47, 3) := by decide +kernel
theorem dX4_hash_49 : decode cX4_hash 49 = .ok (.bipush 64, 2) := by decide +kernel
theorem dX4_hash_51 : decode cX4_hash 51 = .ok (.if_icmp .le 6, 3) := by decide +kernel
theorem dX4_hash_54 : decode cX4_hash 54 = .ok (.bipush (-2), 2) := by decide +kernel
theorem dX4_hash_56 : decode cX4_hash 56 = .ok (.ireturn, 1) := by decide +kernel
theorem dX4_hash_57 : decode cX4_hash 57 = .ok (.aload_n 0, 1) := by decide +kernel
theorem dX4_hash_58 : decode cX4_hash 58 = .ok (.getfield 28, 3) := by decide +kernel
theorem dX4_hash_61 : decode cX4_hash 61 = .ok (.aload 5, 2) := by decide +kernel
theorem dX4_hash_63 : decode cX4_hash 63 = .ok (.invokevirtual 65, 3) := by decide +kernel
theorem dX4_hash_66 : decode cX4_hash 66 = .ok (.aload_n 0, 1) := by decide +kernel
theorem dX4_hash_67 : decode cX4_hash 67 = .ok (.getfield 28, 3) := by decide +kernel
theorem dX4_hash_70 : decode cX4_hash 70 = .ok (.getfield 69, 3) := by decide +kernel
theorem dX4_hash_73 : decode cX4_hash 73 = .ok (.aload_n 0, 1) := by decide +kernel
theorem dX4_hash_74 : decode cX4_hash 74 = .ok (.iload_n 2, 1) := by decide +kernel
theorem dX4_hash_75 : decode cX4_hash 75 = .ok (.invokevirtual 43, 3) := by decide +kernel
theorem dX4_hash_78 : decode cX4_hash 78 = .ok (.invokevirtual 72, 3) := by decide +kernel
theorem dX4_hash_81 : decode cX4_hash 81 = .ok (.aload_n 0, 1) := by decide +kernel
theorem dX4_hash_82 : decode cX4_hash 82 = .ok (.getfield 28, 3) := by decide +kernel
theorem dX4_hash_85 : decode cX4_hash 85 = .ok (.iload 4, 2) := by decide +kernel
theorem dX4_hash_87 : decode cX4_hash 87 = .ok (.aload 5, 2) := by decide +kernel
theorem dX4_hash_89 : decode cX4_hash 89 = .ok (.getfield 47, 3) := by decide +kernel
theorem dX4_hash_92 : decode cX4_hash 92 = .ok (.invokevirtual 75, 3) := by decide +kernel
theorem dX4_hash_95 : decode cX4_hash 95 = .ok (.aload_n 0, 1) := by decide +kernel
theorem dX4_hash_96 : decode cX4_hash 96 = .ok (.iload_n 1, 1) := by decide +kernel
theorem dX4_hash_97 : decode cX4_hash 97 = .ok (.invokevirtual 43, 3) := by decide +kernel
theorem dX4_hash_100 : decode cX4_hash 100 = .ok (.aload_n 0, 1) := by decide +kernel
theorem dX4_hash_101 : decode cX4_hash 101 = .ok (.getfield 28, 3) := by decide +kernel
theorem dX4_hash_104 : decode cX4_hash 104 = .ok (.getfield 79, 3) := by decide +kernel
theorem dX4_hash_107 : decode cX4_hash 107 = .ok (.invokevirtual 82, 3) := by decide +kernel
theorem dX4_hash_110 : decode cX4_hash 110 = .ok (.iload 4, 2) := by decide +kernel
theorem dX4_hash_112 : decode cX4_hash 112 = .ok (.ireturn, 1) := by decide +kernel
theorem dX4_longHash_0 : decode cX4_longHash 0 = .ok (.iload_n 1, 1) := by decide +kernel
theorem dX4_longHash_1 : decode cX4_longHash 1 = .ok (.invokestatic 39, 3) := by decide +kernel
theorem dX4_longHash_4 : decode cX4_longHash 4 = .ok (.ifCond .eq 22, 3) := by decide +kernel
theorem dX4_longHash_7 : decode cX4_longHash 7 = .ok (.iload_n 2, 1) := by decide +kernel
theorem dX4_longHash_8 : decode cX4_longHash 8 = .ok (.invokestatic 39, 3) := by decide +kernel
theorem dX4_longHash_11 : decode cX4_longHash 11 = .ok (.ifCond .eq 15, 3) := by decide +kernel
theorem dX4_longHash_14 : decode cX4_longHash 14 = .ok (.iload_n 3, 1) := by decide +kernel
theorem dX4_longHash_15 : decode cX4_longHash 15 = .ok (.iconst 1, 1) := by decide +kernel
theorem dX4_longHash_16 : decode cX4_longHash 16 = .ok (.if_icmp .lt 10, 3) := by decide +kernel
theorem dX4_longHash_19 : decode cX4_longHash 19 = .ok (.iload_n 3, 1) := by decide +kernel
theorem dX4_longHash_20 : decode cX4_longHash 20 = .ok (.sipush 200, 3) := by decide +kernel
theorem dX4_longHash_23 : decode cX4_longHash 23 = .ok (.if_icmp .le 6, 3) := by decide +kernel
theorem dX4_longHash_26 : decode cX4_longHash 26 = .ok (.bipush (-2), 2) := by decide +kernel
theorem dX4_longHash_28 : decode cX4_longHash 28 = .ok (.ireturn, 1) := by decide +kernel
theorem dX4_longHash_29 : decode cX4_longHash 29 = .ok (.aload_n 0, 1) := by decide +kernel
theorem dX4_longHash_30 : decode cX4_longHash 30 = .ok (.getfield 28, 3) := by decide +kernel
theorem dX4_longHash_33 : decode cX4_longHash 33 = .ok (.iload_n 3, 1) := by decide +kernel
theorem dX4_longHash_34 : decode cX4_longHash 34 = .ok (.invokevirtual 85, 3) := by decide +kernel
theorem dX4_longHash_37 : decode cX4_longHash 37 = .ok (.aload_n 0, 1) := by decide +kernel
theorem dX4_longHash_38 : decode cX4_longHash 38 = .ok (.getfield 28, 3) := by decide +kernel
theorem dX4_longHash_41 : decode cX4_longHash 41 = .ok (.getfield 69, 3) := by decide +kernel
theorem dX4_longHash_44 : decode cX4_longHash 44 = .ok (.aload_n 0, 1) := by decide +kernel
theorem dX4_longHash_45 : decode cX4_longHash 45 = .ok (.iload_n 2, 1) := by decide +kernel
theorem dX4_longHash_46 : decode cX4_longHash 46 = .ok (.invokevirtual 43, 3) := by decide +kernel
theorem dX4_longHash_49 : decode cX4_longHash 49 = .ok (.invokevirtual 72, 3) := by decide +kernel
theorem dX4_longHash_52 : decode cX4_longHash 52 = .ok (.aload_n 0, 1) := by decide +kernel
theorem dX4_longHash_53 : decode cX4_longHash 53 = .ok (.getfield 28, 3) := by decide +kernel
theorem dX4_longHash_56 : decode cX4_longHash 56 = .ok (.iload_n 3, 1) := by decide +kernel
theorem dX4_longHash_57 : decode cX4_longHash 57 = .ok (.invokevirtual 88, 3) := by decide +kernel
theorem dX4_longHash_60 : decode cX4_longHash 60 = .ok (.aload_n 0, 1) := by decide +kernel
theorem dX4_longHash_61 : decode cX4_longHash 61 = .ok (.iload_n 1, 1) := by decide +kernel
theorem dX4_longHash_62 : decode cX4_longHash 62 = .ok (.invokevirtual 43, 3) := by decide +kernel
theorem dX4_longHash_65 : decode cX4_longHash 65 = .ok (.aload_n 0, 1) := by decide +kernel
theorem dX4_longHash_66 : decode cX4_longHash 66 = .ok (.getfield 28, 3) := by decide +kernel
theorem dX4_longHash_69 : decode cX4_longHash 69 = .ok (.getfield 79, 3) := by decide +kernel
theorem dX4_longHash_72 : decode cX4_longHash 72 = .ok (.invokevirtual 82, 3) := by decide +kernel
theorem dX4_longHash_75 : decode cX4_longHash 75 = .ok (.iload_n 3, 1) := by decide +kernel
theorem dX4_longHash_76 : decode cX4_longHash 76 = .ok (.ireturn, 1) := by decide +kernel
