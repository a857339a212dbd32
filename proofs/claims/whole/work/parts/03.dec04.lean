theorem dX2_mix_0 : decode cX2_mix 0 = .ok (.getstatic 95, 3) := by decide +kernel
theorem dX2_mix_3 : decode cX2_mix 3 = .ok (.iload_n 1, 1) := by decide +kernel
theorem dX2_mix_4 : decode cX2_mix 4 = .ok (.iaload, 1) := by decide +kernel
theorem dX2_mix_5 : decode cX2_mix 5 = .ok (.istore 6, 2) := by decide +kernel
theorem dX2_mix_7 : decode cX2_mix 7 = .ok (.getstatic 95, 3) := by decide +kernel
theorem dX2_mix_10 : decode cX2_mix 10 = .ok (.iload_n 1, 1) := by decide +kernel
theorem dX2_mix_11 : decode cX2_mix 11 = .ok (.iconst 1, 1) := by decide +kernel
theorem dX2_mix_12 : decode cX2_mix 12 = .ok (.iadd, 1) := by decide +kernel
theorem dX2_mix_13 : decode cX2_mix 13 = .ok (.iaload, 1) := by decide +kernel
theorem dX2_mix_14 : decode cX2_mix 14 = .ok (.istore 7, 2) := by decide +kernel
theorem dX2_mix_16 : decode cX2_mix 16 = .ok (.getstatic 95, 3) := by decide +kernel
theorem dX2_mix_19 : decode cX2_mix 19 = .ok (.iload_n 1, 1) := by decide +kernel
theorem dX2_mix_20 : decode cX2_mix 20 = .ok (.iconst 2, 1) := by decide +kernel
theorem dX2_mix_21 : decode cX2_mix 21 = .ok (.iadd, 1) := by decide +kernel
theorem dX2_mix_22 : decode cX2_mix 22 = .ok (.iaload, 1) := by decide +kernel
theorem dX2_mix_23 : decode cX2_mix 23 = .ok (.istore 8, 2) := by decide +kernel
theorem dX2_mix_25 : decode cX2_mix 25 = .ok (.getstatic 95, 3) := by decide +kernel
theorem dX2_mix_28 : decode cX2_mix 28 = .ok (.iload_n 1, 1) := by decide +kernel
theorem dX2_mix_29 : decode cX2_mix 29 = .ok (.iconst 3, 1) := by decide +kernel
theorem dX2_mix_30 : decode cX2_mix 30 = .ok (.iadd, 1) := by decide +kernel
theorem dX2_mix_31 : decode cX2_mix 31 = .ok (.iaload, 1) := by decide +kernel
theorem dX2_mix_32 : decode cX2_mix 32 = .ok (.istore 9, 2) := by decide +kernel
theorem dX2_mix_34 : decode cX2_mix 34 = .ok (.aload_n 0, 1) := by decide +kernel
theorem dX2_mix_35 : decode cX2_mix 35 = .ok (.getfield 27, 3) := by decide +kernel
theorem dX2_mix_38 : decode cX2_mix 38 = .ok (.iload 6, 2) := by decide +kernel
theorem dX2_mix_40 : decode cX2_mix 40 = .ok (.dup2, 1) := by decide +kernel
theorem dX2_mix_41 : decode cX2_mix 41 = .ok (.laload, 1) := by decide +kernel
theorem dX2_mix_42 : decode cX2_mix 42 = .ok (.aload_n 0, 1) := by decide +kernel
theorem dX2_mix_43 : decode cX2_mix 43 = .ok (.getfield 27, 3) := by decide +kernel
theorem dX2_mix_46 : decode cX2_mix 46 = .ok (.iload 7, 2) := by decide +kernel
theorem dX2_mix_48 : decode cX2_mix 48 = .ok (.laload, 1) := by decide +kernel
theorem dX2_mix_49 : decode cX2_mix 49 = .ok (.lload_n 2, 1) := by decide +kernel
theorem dX2_mix_50 : decode cX2_mix 50 = .ok (.ladd, 1) := by decide +kernel
theorem dX2_mix_51 : decode cX2_mix 51 = .ok (.ladd, 1) := by decide +kernel
theorem dX2_mix_52 : decode cX2_mix 52 = .ok (.lastore, 1) := by decide +kernel
theorem dX2_mix_53 : decode cX2_mix 53 = .ok (.aload_n 0, 1) := by decide +kernel
theorem dX2_mix_54 : decode cX2_mix 54 = .ok (.getfield 27, 3) := by decide +kernel
theorem dX2_mix_57 : decode cX2_mix 57 = .ok (.iload 9, 2) := by decide +kernel
theorem dX2_mix_59 : decode cX2_mix 59 = .ok (.aload_n 0, 1) := by decide +kernel
theorem dX2_mix_60 : decode cX2_mix 60 = .ok (.getfield 27, 3) := by decide +kernel
theorem dX2_mix_63 : decode cX2_mix 63 = .ok (.iload 9, 2) := by decide +kernel
theorem dX2_mix_65 : decode cX2_mix 65 = .ok (.laload, 1) := by decide +kernel
theorem dX2_mix_66 : decode cX2_mix 66 = .ok (.aload_n 0, 1) := by decide +kernel
theorem dX2_mix_67 : decode cX2_mix 67 = .ok (.getfield 27, 3) := by decide +kernel
theorem dX2_mix_70 : decode cX2_mix 70 = .ok (.iload 6, 2) := by decide +kernel
theorem dX2_mix_72 : decode cX2_mix 72 = .ok (.laload, 1) := by decide +kernel
theorem dX2_mix_73 : decode cX2_mix 73 = .ok (.lxor, 1) := by decide +kernel
theorem dX2_mix_74 : decode cX2_mix 74 = .ok (.bipush 32, 2) := by decide +kernel
theorem dX2_mix_76 : decode cX2_mix 76 = .ok (.invokestatic 98, 3) := by decide +kernel
theorem dX2_mix_79 : decode cX2_mix 79 = .ok (.lastore, 1) := by decide +kernel
theorem dX2_mix_80 : decode cX2_mix 80 = .ok (.aload_n 0, 1) := by decide +kernel
theorem dX2_mix_81 : decode cX2_mix 81 = .ok (.getfield 27, 3) := by decide +kernel
theorem dX2_mix_84 : decode cX2_mix 84 = .ok (.iload 8, 2) := by decide +kernel
theorem dX2_mix_86 : decode cX2_mix 86 = .ok (.dup2, 1) := by decide +kernel
theorem dX2_mix_87 : decode cX2_mix 87 = .ok (.laload, 1) := by decide +kernel
theorem dX2_mix_88 : decode cX2_mix 88 = .ok (.aload_n 0, 1) := by decide +kernel
theorem dX2_mix_89 : decode cX2_mix 89 = .ok (.getfield 27, 3) := by decide +kernel
theorem dX2_mix_92 : decode cX2_mix 92 = .ok (.iload 9, 2) := by decide +kernel
theorem dX2_mix_94 : decode cX2_mix 94 = .ok (.laload, 1) := by decide +kernel
theorem dX2_mix_95 : decode cX2_mix 95 = .ok (.ladd, 1) := by decide +kernel
theorem dX2_mix_96 : decode cX2_mix 96 = .ok (.lastore, 1) := by decide +kernel
theorem dX2_mix_97 : decode cX2_mix 97 = .ok (.aload_n 0, 1) := by decide +kernel
theorem dX2_mix_98 : decode cX2_mix 98 = .ok (.getfield 27, 3) := by decide +kernel
theorem dX2_mix_101 : decode cX2_mix 101 = .ok (.iload 7, 2) := by decide +kernel
theorem dX2_mix_103 : decode cX2_mix 103 = .ok (.aload_n 0, 1) := by decide +kernel
theorem dX2_mix_104 : decode cX2_mix 104 = .ok (.getfield 27, 3) := by decide +kernel
theorem dX2_mix_107 : decode cX2_mix 107 = .ok (.iload 7, 2) := by decide +kernel
theorem dX2_mix_109 : decode cX2_mix 109 = .ok (.laload, 1) := by decide +kernel
theorem dX2_mix_110 : decode cX2_mix 110 = .ok (.aload_n 0, 1) := by decide +kernel
theorem dX2_mix_111 : decode cX2_mix 111 = .ok (.getfield 27, 3) := by decide +kernel
theorem dX2_mix_114 : decode cX2_mix 114 = .ok (.iload 8, 2) := by decide +kernel
theorem dX2_mix_116 : decode cX2_mix 116 = .ok (.laload, 1) := by decide +kernel
theorem dX2_mix_117 : decode cX2_mix 117 = .ok (.lxor, 1) := by decide +kernel
theorem dX2_mix_118 : decode cX2_mix 118 = .ok (.bipush 24, 2) := by decide +kernel
theorem dX2_mix_120 : decode cX2_mix 120 = .ok (.invokestatic 98, 3) := by decide +kernel
theorem dX2_mix_123 : decode cX2_mix 123 = .ok (.lastore, 1) := by decide +kernel
theorem dX2_mix_124 : decode cX2_mix 124 = .ok (.aload_n 0, 1) := by decide +kernel
theorem dX2_mix_125 : decode cX2_mix 125 = .ok (.getfield 27, 3) := by decide +kernel
theorem dX2_mix_128 : decode cX2_mix 128 = .ok (.iload 6, 2) := by decide +kernel
theorem dX2_mix_130 : decode cX2_mix 130 = .ok (.dup2, 1) := by decide +kernel
theorem dX2_mix_131 : decode cX2_mix 131 = .ok (.laload, 1) := by decide +kernel
theorem dX2_mix_132 : decode cX2_mix 132 = .ok (.aload_n 0, 1) := by decide +kernel
theorem dX2_mix_133 : decode cX2_mix 133 = .ok (.getfield 27, 3) := by decide +kernel
theorem dX2_mix_136 : decode cX2_mix 136 = .ok (.iload 7, 2) := by decide +kernel
theorem dX2_mix_138 : decode cX2_mix 138 = .ok (.laload, 1) := by decide +kernel
theorem dX2_mix_139 : decode cX2_mix 139 = .ok (.lload 4, 2) := by decide +kernel
theorem dX2_mix_141 : decode cX2_mix 141 = .ok (.ladd, 1) := by decide +kernel
theorem dX2_mix_142 : decode cX2_mix 142 = .ok (.ladd, 1) := by decide +kernel
theorem dX2_mix_143 : decode cX2_mix 143 = .ok (.lastore, 1) := by decide +kernel
theorem dX2_mix_144 : decode cX2_mix 144 = .ok (.aload_n 0, 1) := by decide +kernel
theorem dX2_mix_145 : decode cX2_mix 145 = .ok (.getfield 27, 3) := by decide +kernel
theorem dX2_mix_148 : decode cX2_mix 148 = .ok (.iload 9, 2) := by decide +kernel
theorem dX2_mix_150 : decode cX2_mix 150 = .ok (.aload_n 0, 1) := by decide +kernel
theorem dX2_mix_151 : decode cX2_mix 151 = .ok (.getfield 27, 3) := by decide +kernel
theorem dX2_mix_154 : decode cX2_mix 154 = .ok (.iload 9, 2) := by decide +kernel
theorem dX2_mix_156 : decode cX2_mix 156 = .ok (.laload, 1) := by decide +kernel
theorem dX2_mix_157 : decode cX2_mix 157 = .ok (.aload_n 0, 1) := by decide +kernel
theorem dX2_mix_158 : decode cX2_mix 158 = .ok (.getfield 27, 3) := by decide +kernel
theorem dX2_mix_161 : decode cX2_mix 161 = .ok (.iload 6, 2) := by decide +kernel
theorem dX2_mix_163 : decode cX2_mix 163 = .ok (.laload, 1) := by decide +kernel
theorem dX2_mix_164 : decode cX2_mix 164 = .ok (.lxor, 1) := by decide +kernel
theorem dX2_mix_165 : decode cX2_mix 165 = .ok (.bipush 16, 2) := by decide +kernel
theorem dX2_mix_167 : decode cX2_mix 167 = .ok (.invokestatic 98, 3) := by decide +kernel
theorem dX2_mix_170 : decode cX2_mix 170 = .ok (.lastore, 1) := by decide +kernel
theorem dX2_mix_171 : decode cX2_mix 171 = .ok (.aload_n 0, 1) := by decide +kernel
theorem dX2_mix_172 : decode cX2_mix 172 = .ok (.getfield 27, 3) := by decide +kernel
theorem dX2_mix_175 : decode cX2_mix 175 = .ok (.iload 8, 2) := by decide +kernel
theorem dX2_mix_177 : decode cX2_mix 177 = .ok (.dup2, 1) := by decide +kernel
theorem dX2_mix_178 : decode cX2_mix 178 = .ok (.laload, 1) := by decide +kernel
theorem dX2_mix_179 : decode cX2_mix 179 = .ok (.aload_n 0, 1) := by decide +kernel
theorem dX2_mix_180 : decode cX2_mix 180 = .ok (.getfield 27, 3) := by decide +kernel
theorem dX2_mix_183 : decode cX2_mix 183 = .ok (.iload 9, 2) := by decide +kernel
theorem dX2_mix_185 : decode cX2_mix 185 = .ok (.laload, 1) := by decide +kernel
theorem dX2_mix_186 : decode cX2_mix 186 = .ok (.ladd, 1) := by decide +kernel
theorem dX2_mix_187 : decode cX2_mix 187 = .ok (.lastore, 1) := by decide +kernel
theorem dX2_mix_188 : decode cX2_mix 188 = .ok (.aload_n 0, 1) := by decide +kernel
theorem dX2_mix_189 : decode cX2_mix 189 = .ok (.getfield 27, 3) := by decide +kernel
theorem dX2_mix_192 : decode cX2_mix 192 = .ok (.iload 7, 2) := by decide +kernel
theorem dX2_mix_194 : decode cX2_mix 194 = .ok (.aload_n 0, 1) := by decide +kernel
theorem dX2_mix_195 : decode cX2_mix 195 = .ok (.getfield 27, 3) := by decide +kernel
theorem dX2_mix_198 : decode cX2_mix 198 = .ok (.iload 7, 2) := by decide +kernel
theorem dX2_mix_200 : decode cX2_mix 200 = .ok (.laload, 1) := by decide +kernel
theorem dX2_mix_201 : decode cX2_mix 201 = .ok (.aload_n 0, 1) := by decide +kernel
theorem dX2_mix_202 : decode cX2_mix 202 = .ok (.getfield 27, 3) := by decide +kernel
theorem dX2_mix_205 : decode cX2_mix 205 = .ok (.iload 8, 2) := by decide +kernel
theorem dX2_mix_207 : decode cX2_mix 207 = .ok (.laload, 1) := by decide +kernel
theorem dX2_mix_208 : decode cX2_mix 208 = .ok (.lxor, 1) := by decide +kernel
theorem dX2_mix_209 : decode cX2_mix 209 = .ok (.bipush 63, 2) := by decide +kernel
theorem dX2_mix_211 : decode cX2_mix 211 = .ok (.invokestatic 98, 3) := by decide +kernel
theorem dX2_mix_214 : decode cX2_mix 214 = .ok (.lastore, 1) := by decide +kernel
theorem dX2_mix_215 : decode cX2_mix 215 = .ok (.return_, 1) := by decide +kernel
theorem dX3_init_0 : decode cX3_init 0 = .ok (.aload_n 0, 1) := by decide +kernel
theorem dX3_init_1 : decode cX3_init 1 = .ok (.invokespecial 3, 3) := by decide +kernel
theorem dX3_init_4 : decode cX3_init 4 = .ok (.aload_n 0, 1) := by decide +kernel
theorem dX3_init_5 : decode cX3_init 5 = .ok (.sipush 128, 3) := by decide +kernel
theorem dX3_init_8 : decode cX3_init 8 = .ok (.newarray .long, 2) := by decide +kernel
theorem dX3_init_10 : decode cX3_init 10 = .ok (.putfield 9, 3) := by decide +kernel
theorem dX3_init_13 : decode cX3_init 13 = .ok (.aload_n 0, 1) := by decide +kernel
theorem dX3_init_14 : decode cX3_init 14 = .ok (.sipush 128, 3) := by decide +kernel
theorem dX3_init_17 : decode cX3_init 17 = .ok (.newarray .long, 2) := by decide +kernel
theorem dX3_init_19 : decode cX3_init 19 = .ok (.putfield 15, 3) := by decide +kernel
theorem dX3_init_22 : decode cX3_init 22 = .ok (.aload_n 0, 1) := by decide +kernel
theorem dX3_init_23 : decode cX3_init 23 = .ok (.bipush 16, 2) := by decide +kernel
theorem dX3_init_25 : decode cX3_init 25 = .ok (.newarray .long, 2) := by decide +kernel
theorem dX3_init_27 : decode cX3_init 27 = .ok (.putfield 18, 3) := by decide +kernel
theorem dX3_init_30 : decode cX3_init 30 = .ok (.return_, 1) := by decide +kernel
theorem dX3_join_0 : decode cX3_join 0 = .ok (.iconst 0, 1) := by decide +kernel
theorem dX3_join_1 : decode cX3_join 1 = .ok (.istore 5, 2) := by decide +kernel
theorem dX3_join_3 : decode cX3_join 3 = .ok (.iload 5, 2) := by decide +kernel
theorem dX3_join_5 : decode cX3_join 5 = .ok (.sipush 128, 3) := by decide +kernel
theorem dX3_join_8 : decode cX3_join 8 = .ok (.if_icmp .ge 39, 3) := by decide +kernel
theorem dX3_join_11 : decode cX3_join 11 = .ok (.aload_n 0, 1) := by decide +kernel
theorem dX3_join_12 : decode cX3_join 12 = .ok (.getfield 9, 3) := by decide +kernel
theorem dX3_join_15 : decode cX3_join 15 = .ok (.iload 5, 2) := by decide +kernel
theorem dX3_join_17 : decode cX3_join 17 = .ok (.aload_n 1, 1) := by decide +kernel
theorem dX3_join_18 : decode cX3_join 18 = .ok (.iload 5, 2) := by decide +kernel
theorem dX3_join_20 : decode cX3_join 20 = .ok (.laload, 1) := by decide +kernel
theorem dX3_join_21 : decode cX3_join 21 = .ok (.aload_n 2, 1) := by decide +kernel
theorem dX3_join_22 : decode cX3_join 22 = .ok (.iload 5, 2) := by decide +kernel
theorem dX3_join_24 : decode cX3_join 24 = .ok (.laload, 1) := by decide +kernel
theorem dX3_join_25 : decode cX3_join 25 = .ok (.lxor, 1) := by decide +kernel
theorem dX3_join_26 : decode cX3_join 26 = .ok (.lastore, 1) := by decide +kernel
theorem dX3_join_27 : decode cX3_join 27 = .ok (.aload_n 0, 1) := by decide +kernel
theorem dX3_join_28 : decode cX3_join 28 = .ok (.getfield 15, 3) := by decide +kernel
theorem dX3_join_31 : decode cX3_join 31 = .ok (.iload 5, 2) := by decide +kernel
theorem dX3_join_33 : decode cX3_join 33 = .ok (.aload_n 0, 1) := by decide +kernel
theorem dX3_join_34 : decode cX3_join 34 = .ok (.getfield 9, 3) := by decide +kernel
theorem dX3_join_37 : decode cX3_join 37 = .ok (.iload 5, 2) := by decide +kernel
theorem dX3_join_39 : decode cX3_join 39 = .ok (.laload, 1) := by decide +kernel
theorem dX3_join_40 : decode cX3_join 40 = .ok (.lastore, 1) := by decide +kernel
theorem dX3_join_41 : decode cX3_join 41 = .ok (.iinc 5 1, 3) := by decide +kernel
theorem dX3_join_44 : decode cX3_join 44 = .ok (.goto (-41), 3) := by decide +kernel
theorem dX3_join_47 : decode cX3_join 47 = .ok (.iconst 0, 1) := by decide +kernel
theorem dX3_join_48 : decode cX3_join 48 = .ok (.istore 5, 2) := by decide +kernel
theorem dX3_join_50 : decode cX3_join 50 = .ok (.iload 5, 2) := by decide +kernel
theorem dX3_join_52 : decode cX3_join 52 = .ok (.bipush 8, 2) := by decide +kernel
theorem dX3_join_54 : decode cX3_join 54 = .ok (.if_icmp .ge 19, 3) := by decide +kernel
theorem dX3_join_57 : decode cX3_join 57 = .ok (.aload_n 0, 1) := by decide +kernel
theorem dX3_join_58 : decode cX3_join 58 = .ok (.bipush 16, 2) := by decide +kernel
theorem dX3_join_60 : decode cX3_join 60 = .ok (.iload 5, 2) := by decide +kernel
theorem dX3_join_62 : decode cX3_join 62 = .ok (.imul, 1) := by decide +kernel
theorem dX3_join_63 : decode cX3_join 63 = .ok (.iconst 2, 1) := by decide +kernel
theorem dX3_join_64 : decode cX3_join 64 = .ok (.invokevirtual 21, 3) := by decide +kernel
theorem dX3_join_67 : decode cX3_join 67 = .ok (.iinc 5 1, 3) := by decide +kernel
theorem dX3_join_70 : decode cX3_join 70 = .ok (.goto (-20), 3) := by decide +kernel
theorem dX3_join_73 : decode cX3_join 73 = .ok (.iconst 0, 1) := by decide +kernel
theorem dX3_join_74 : decode cX3_join 74 = .ok (.istore 5, 2) := by decide +kernel
theorem dX3_join_76 : decode cX3_join 76 = .ok (.iload 5, 2) := by decide +kernel
theorem dX3_join_78 : decode cX3_join 78 = .ok (.bipush 8, 2) := by decide +kernel
theorem dX3_join_80 : decode cX3_join 80 = .ok (.if_icmp .ge 19, 3) := by decide +kernel
theorem dX3_join_83 : decode cX3_join 83 = .ok (.aload_n 0, 1) := by decide +kernel
theorem dX3_join_84 : decode cX3_join 84 = .ok (.iconst 2, 1) := by decide +kernel
theorem dX3_join_85 : decode cX3_join 85 = .ok (.iload 5, 2) := by decide +kernel
theorem dX3_join_87 : decode cX3_join 87 = .ok (.imul, 1) := by decide +kernel
theorem dX3_join_88 : decode cX3_join 88 = .ok (.bipush 16, 2) := by decide +kernel
theorem dX3_join_90 : decode cX3_join 90 = .ok (.invokevirtual 21, 3) := by decide +kernel
theorem dX3_join_93 : decode cX3_join 93 = .ok (.iinc 5 1, 3) := by decide +kernel
theorem dX3_join_96 : decode cX3_join 96 = .ok (.goto (-20), 3) := by decide +kernel
theorem dX3_join_99 : decode cX3_join 99 = .ok (.iconst 0, 1) := by decide +kernel
theorem dX3_join_100 : decode cX3_join 100 = .ok (.istore 5, 2) := by decide +kernel
theorem dX3_join_102 : decode cX3_join 102 = .ok (.iload 5, 2) := by decide +kernel
theorem dX3_join_104 : decode cX3_join 104 = .ok (.sipush 128, 3) := by decide +kernel
theorem dX3_join_107 : decode cX3_join 107 = .ok (.if_icmp .ge 46, 3) := by decide +kernel
theorem dX3_join_110 : decode cX3_join 110 = .ok (.iload 4, 2) := by decide +kernel
theorem dX3_join_112 : decode cX3_join 112 = .ok (.ifCond .eq 10, 3) := by decide +kernel
theorem dX3_join_115 : decode cX3_join 115 = .ok (.aload_n 3, 1) := by decide +kernel
theorem dX3_join_116 : decode cX3_join 116 = .ok (.iload 5, 2) := by decide +kernel
theorem dX3_join_118 : decode cX3_join 118 = .ok (.laload, 1) := by decide +kernel
theorem dX3_join_119 : decode cX3_join 119 = .ok (.goto 4, 3) := by decide +kernel
theorem dX3_join_122 : decode cX3_join 122 = .ok (.lconst 0, 1) := by decide +kernel
theorem dX3_join_123 : decode cX3_join 123 = .ok (.lstore 6, 2) := by decide +kernel
theorem dX3_join_125 : decode cX3_join 125 = .ok (.aload_n 3, 1) := by decide +kernel
theorem dX3_join_126 : decode cX3_join 126 = .ok (.iload 5, 2) := by decide +kernel
theorem dX3_join_128 : decode cX3_join 128 = .ok (.lload 6, 2) := by decide +kernel
theorem dX3_join_130 : decode cX3_join 130 = .ok (.aload_n 0, 1) := by decide +kernel
theorem dX3_join_131 : decode cX3_join 131 = .ok (.getfield 15, 3) := by decide +kernel
theorem dX3_join_134 : decode cX3_join 134 = .ok (.iload 5, 2) := by decide +kernel
theorem dX3_join_136 : decode cX3_join 136 = .ok (.laload, 1) := by decide +kernel
theorem dX3_join_137 : decode cX3_join 137 = .ok (.lxor, 1) := by decide +kernel
theorem dX3_join_138 : decode cX3_join 138 = .ok (.aload_n 0, 1) := by decide +kernel
theorem dX3_join_139 : decode cX3_join 139 = .ok (.getfield 9, 3) := by decide +kernel
theorem dX3_join_142 : decode cX3_join 142 = .ok (.iload 5, 2) := by decide +kernel
theorem dX3_join_144 : decode cX3_join 144 = .ok (.laload, 1) := by decide +kernel
theorem dX3_join_145 : decode cX3_join 145 = .ok (.lxor, 1) := by decide +kernel
theorem dX3_join_146 : decode cX3_join 146 = .ok (.lastore, 1) := by decide +kernel
theorem dX3_join_147 : decode cX3_join 147 = .ok (.iinc 5 1, 3) := by decide +kernel
theorem dX3_join_150 : decode cX3_join 150 = .ok (.goto (-48), 3) := by decide +kernel
theorem dX3_join_153 : decode cX3_join 153 = .ok (.return_, 1) := by decide +kernel
theorem dX3_stir_0 : decode cX3_stir 0 = .ok (.iconst 0, 1) := by decide +kernel
theorem dX3_stir_1 : decode cX3_stir 1 = .ok (.istore_n 3, 1) := by decide +kernel
theorem dX3_stir_2 : decode cX3_stir 2 = .ok (.iload_n 3, 1) := by decide +kernel
theorem dX3_stir_3 : decode cX3_stir 3 = .ok (.bipush 8, 2) := by decide +kernel
theorem dX3_stir_5 : decode cX3_stir 5 = .ok (.if_icmp .ge 49, 3) := by decide +kernel
theorem dX3_stir_8 : decode cX3_stir 8 = .ok (.aload_n 0, 1) := by decide +kernel
theorem dX3_stir_9 : decode cX3_stir 9 = .ok (.getfield 18, 3) := by decide +kernel
theorem dX3_stir_12 : decode cX3_stir 12 = .ok (.iconst 2, 1) := by decide +kernel
theorem dX3_stir_13 : decode cX3_stir 13 = .ok (.iload_n 3, 1) := by decide +kernel
theorem dX3_stir_14 : decode cX3_stir 14 = .ok (.imul, 1) := by decide +kernel
theorem dX3_stir_15 : decode cX3_stir 15 = .ok (.aload_n 0, 1) := by decide +kernel
theorem dX3_stir_16 : decode cX3_stir 16 = .ok (.getfield 15, 3) := by decide +kernel
theorem dX3_stir_19 : decode cX3_stir 19 = .ok (.iload_n 1, 1) := by decide +kernel
theorem dX3_stir_20 : decode cX3_stir 20 = .ok (.iload_n 2, 1) := by decide +kernel
theorem dX3_stir_21 : decode cX3_stir 21 = .ok (.iload_n 3, 1) := by decide +kernel
theorem dX3_stir_22 : decode cX3_stir 22 = .ok (.imul, 1) := by decide +kernel
theorem dX3_stir_23 : decode cX3_stir 23 = .ok (.iadd, 1) := by decide +kernel
theorem dX3_stir_24 : decode cX3_stir 24 = .ok (.laload, 1) := by decide +kernel
theorem dX3_stir_25 : decode cX3_stir 25 = .ok (.lastore, 1) := by decide +kernel
theorem dX3_stir_26 : decode cX3_stir 26 = .ok (.aload_n 0, 1) := by decide +kernel
theorem dX3_stir_27 : decode cX3_stir 27 = .ok (.getfield 18, 3) := by decide +kernel
theorem dX3_stir_30 : decode cX3_stir 30 = .ok (.iconst 2, 1) := by decide +kernel
theorem dX3_stir_31 : decode cX3_stir 31 = .ok (.iload_n 3, 1) := by decide +kernel
theorem dX3_stir_32 : decode cX3_stir 32 = .ok (.imul, 1) := by decide +kernel
theorem dX3_stir_33 : decode cX3_stir 33 = .ok (.iconst 1, 1) := by decide +kernel
theorem dX3_stir_34 : decode cX3_stir 34 = .ok (.iadd, 1) := by decide +kernel
theorem dX3_stir_35 : decode cX3_stir 35 = .ok (.aload_n 0, 1) := by decide +kernel
theorem dX3_stir_36 : decode cX3_stir 36 = .ok (.getfield 15, 3) := by decide +kernel
theorem dX3_stir_39 : decode cX3_stir 39 = .ok (.iload_n 1, 1) := by decide +kernel
theorem dX3_stir_40 : decode cX3_stir 40 = .ok (.iload_n 2, 1) := by decide +kernel
theorem dX3_stir_41 : decode cX3_stir 41 = .ok (.iload_n 3, 1) := by decide +kernel
theorem dX3_stir_42 : decode cX3_stir 42 = .ok (.imul, 1) := by decide +kernel
theorem dX3_stir_43 : decode cX3_stir 43 = .ok (.iadd, 1) := by decide +kernel
theorem dX3_stir_44 : decode cX3_stir 44 = .ok (.iconst 1, 1) := by decide +kernel
theorem dX3_stir_45 : decode cX3_stir 45 = .ok (.iadd, 1) := by decide +kernel
theorem dX3_stir_46 : decode cX3_stir 46 = .ok (.laload, 1) := by decide +kernel
theorem dX3_stir_47 : decode cX3_stir 47 = .ok (.lastore, 1) := by decide +kernel
theorem dX3_stir_48 : decode cX3_stir 48 = .ok (.iinc 3 1, 3) := by decide +kernel
theorem dX3_stir_51 : decode cX3_stir 51 = .ok (.goto (-49), 3) := by decide +kernel
theorem dX3_stir_54 : decode cX3_stir 54 = .ok (.iconst 0, 1) := by decide +kernel
theorem dX3_stir_55 : decode cX3_stir 55 = .ok (.istore_n 3, 1) := by decide +kernel
theorem dX3_stir_56 : decode cX3_stir 56 = .ok (.iload_n 3, 1) := by decide +kernel
theorem dX3_stir_57 : decode cX3_stir 57 = .ok (.bipush 8, 2) := by decide +kernel
theorem dX3_stir_59 : decode cX3_stir 59 = .ok (.if_icmp .ge 16, 3) := by decide +kernel
theorem dX3_stir_62 : decode cX3_stir 62 = .ok (.aload_n 0, 1) := by decide +kernel
theorem dX3_stir_63 : decode cX3_stir 63 = .ok (.iconst 4, 1) := by decide +kernel
theorem dX3_stir_64 : decode cX3_stir 64 = .ok (.iload_n 3, 1) := by decide +kernel
theorem dX3_stir_65 : decode cX3_stir 65 = .ok (.imul, 1) := by decide +kernel
theorem dX3_stir_66 : decode cX3_stir 66 = .ok (.invokevirtual 25, 3) := by decide +kernel
theorem dX3_stir_69 : decode cX3_stir 69 = .ok (.iinc 3 1, 3) := by decide +kernel
theorem dX3_stir_72 : decode cX3_stir 72 = .ok (.goto (-16), 3) := by decide +kernel
theorem dX3_stir_75 : decode cX3_stir 75 = .ok (.iconst 0, 1) := by decide +kernel
theorem dX3_stir_76 : decode cX3_stir 76 = .ok (.istore_n 3, 1) := by decide +kernel
theorem dX3_stir_77 : decode cX3_stir 77 = .ok (.iload_n 3, 1) := by decide +kernel
theorem dX3_stir_78 : decode cX3_stir 78 = .ok (.bipush 8, 2) := by decide +kernel
theorem dX3_stir_80 : decode cX3_stir 80 = .ok (.if_icmp .ge 49, 3) := by decide +kernel
theorem dX3_stir_83 : decode cX3_stir 83 = .ok (.aload_n 0, 1) := by decide +kernel
theorem dX3_stir_84 : decode cX3_stir 84 = .ok (.getfield 15, 3) := by decide +kernel
theorem dX3_stir_87 : decode cX3_stir 87 = .ok (.iload_n 1, 1) := by decide +kernel
theorem dX3_stir_88 : decode cX3_stir 88 = .ok (.iload_n 2, 1) := by decide +kernel
theorem dX3_stir_89 : decode cX3_stir 89 = .ok (.iload_n 3, 1) := by decide +kernel
theorem dX3_stir_90 : decode cX3_stir 90 = .ok (.imul, 1) := by decide +kernel
theorem dX3_stir_91 : decode cX3_stir 91 = .ok (.iadd, 1) := by decide +kernel
theorem dX3_stir_92 : decode cX3_stir 92 = .ok (.aload_n 0, 1) := by decide +kernel
theorem dX3_stir_93 : decode cX3_stir 93 = .ok (.getfield 18, 3) := by decide +kernel
theorem dX3_stir_96 : decode cX3_stir 96 = .ok (.iconst 2, 1) := by decide +kernel
theorem dX3_stir_97 : decode cX3_stir 97 = .ok (.iload_n 3, 1) := by decide +kernel
theorem dX3_stir_98 : decode cX3_stir 98 = .ok (.imul, 1) := by decide +kernel
theorem dX3_stir_99 : decode cX3_stir 99 = .ok (.laload, 1) := by decide +kernel
theorem dX3_stir_100 : decode cX3_stir 100 = .ok (.lastore, 1) := by decide +kernel
theorem dX3_stir_101 : decode cX3_stir 101 = .ok (.aload_n 0, 1) := by decide +kernel
theorem dX3_stir_102 : decode cX3_stir 102 = .ok (.getfield 15, 3) := by decide +kernel
theorem dX3_stir_105 : decode cX3_stir 105 = .ok (.iload_n 1, 1) := by decide +kernel
theorem dX3_stir_106 : decode cX3_stir 106 = .ok (.iload_n 2, 1) := by decide +kernel
theorem dX3_stir_107 : decode cX3_stir 107 = .ok (.iload_n 3, 1) := by decide +kernel
theorem dX3_stir_108 : decode cX3_stir 108 = .ok (.imul, 1) := by decide +kernel
theorem dX3_stir_109 : decode cX3_stir 109 = .ok (.iadd, 1) := by decide +kernel
theorem dX3_stir_110 : decode cX3_stir 110 = .ok (.iconst 1, 1) := by decide +kernel
theorem dX3_stir_111 : decode cX3_stir 111 = .ok (.iadd, 1) := by decide +kernel
theorem dX3_stir_112 : decode cX3_stir 112 = .ok (.aload_n 0, 1) := by decide +kernel
theorem dX3_stir_113 : decode cX3_stir 113 = .ok (.getfield 18, 3) := by decide +kernel
theorem dX3_stir_116 : decode cX3_stir 116 = .ok (.iconst 2, 1) := by decide +kernel
theorem dX3_stir_117 : decode cX3_stir 117 = .ok (.iload_n 3, 1) := by decide +kernel
theorem dX3_stir_118 : decode cX3_stir 118 = .ok (.imul, 1) := by decide +kernel
theorem dX3_stir_119 : decode cX3_stir 119 = .ok (.iconst 1, 1) := by decide +kernel
theorem dX3_stir_120 : decode cX3_stir 120 = .ok (.iadd, 1) := by decide +kernel
theorem dX3_stir_121 : decode cX3_stir 121 = .ok (.laload, 1) := by decide +kernel
theorem dX3_stir_122 : decode cX3_stir 122 = .ok (.lastore, 1) := by decide +kernel
theorem dX3_stir_123 : decode cX3_stir 123 = .ok (.iinc 3 1, 3) := by decide +kernel
theorem dX3_stir_126 : decode cX3_stir 126 = .ok (.goto (-49), 3) := by decide +kernel
theorem dX3_stir_129 : decode cX3_stir 129 = .ok (.return_, 1) := by decide +kernel
