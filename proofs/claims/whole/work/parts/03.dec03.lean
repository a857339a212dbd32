theorem dX2_makeShort_0 : decode cX2_makeShort 0 = .ok (.aload_n 0, 1) := by decide +kernel
theorem dX2_makeShort_1 : decode cX2_makeShort 1 = .ok (.getfield 20, 3) := by decide +kernel
theorem dX2_makeShort_4 : decode cX2_makeShort 4 = .ok (.invokevirtual 33, 3) := by decide +kernel
theorem dX2_makeShort_7 : decode cX2_makeShort 7 = .ok (.aload_n 0, 1) := by decide +kernel
theorem dX2_makeShort_8 : decode cX2_makeShort 8 = .ok (.iload_n 1, 1) := by decide +kernel
theorem dX2_makeShort_9 : decode cX2_makeShort 9 = .ok (.iload_n 2, 1) := by decide +kernel
theorem dX2_makeShort_10 : decode cX2_makeShort 10 = .ok (.invokevirtual 51, 3) := by decide +kernel
theorem dX2_makeShort_13 : decode cX2_makeShort 13 = .ok (.aload_n 0, 1) := by decide +kernel
theorem dX2_makeShort_14 : decode cX2_makeShort 14 = .ok (.iload_n 1, 1) := by decide +kernel
theorem dX2_makeShort_15 : decode cX2_makeShort 15 = .ok (.invokevirtual 55, 3) := by decide +kernel
theorem dX2_makeShort_18 : decode cX2_makeShort 18 = .ok (.return_, 1) := by decide +kernel
theorem dX2_makeLong_0 : decode cX2_makeLong 0 = .ok (.aload_n 0, 1) := by decide +kernel
theorem dX2_makeLong_1 : decode cX2_makeLong 1 = .ok (.getfield 20, 3) := by decide +kernel
theorem dX2_makeLong_4 : decode cX2_makeLong 4 = .ok (.invokevirtual 33, 3) := by decide +kernel
theorem dX2_makeLong_7 : decode cX2_makeLong 7 = .ok (.iload_n 1, 1) := by decide +kernel
theorem dX2_makeLong_8 : decode cX2_makeLong 8 = .ok (.istore_n 2, 1) := by decide +kernel
theorem dX2_makeLong_9 : decode cX2_makeLong 9 = .ok (.iload_n 2, 1) := by decide +kernel
theorem dX2_makeLong_10 : decode cX2_makeLong 10 = .ok (.bipush 64, 2) := by decide +kernel
theorem dX2_makeLong_12 : decode cX2_makeLong 12 = .ok (.if_icmp .le 26, 3) := by decide +kernel
theorem dX2_makeLong_15 : decode cX2_makeLong 15 = .ok (.aload_n 0, 1) := by decide +kernel
theorem dX2_makeLong_16 : decode cX2_makeLong 16 = .ok (.bipush 64, 2) := by decide +kernel
theorem dX2_makeLong_18 : decode cX2_makeLong 18 = .ok (.iconst 0, 1) := by decide +kernel
theorem dX2_makeLong_19 : decode cX2_makeLong 19 = .ok (.invokevirtual 51, 3) := by decide +kernel
theorem dX2_makeLong_22 : decode cX2_makeLong 22 = .ok (.aload_n 0, 1) := by decide +kernel
theorem dX2_makeLong_23 : decode cX2_makeLong 23 = .ok (.bipush 32, 2) := by decide +kernel
theorem dX2_makeLong_25 : decode cX2_makeLong 25 = .ok (.invokevirtual 55, 3) := by decide +kernel
theorem dX2_makeLong_28 : decode cX2_makeLong 28 = .ok (.aload_n 0, 1) := by decide +kernel
theorem dX2_makeLong_29 : decode cX2_makeLong 29 = .ok (.invokevirtual 58, 3) := by decide +kernel
theorem dX2_makeLong_32 : decode cX2_makeLong 32 = .ok (.iinc 2 (-32), 3) := by decide +kernel
theorem dX2_makeLong_35 : decode cX2_makeLong 35 = .ok (.goto (-26), 3) := by decide +kernel
theorem dX2_makeLong_38 : decode cX2_makeLong 38 = .ok (.iload_n 1, 1) := by decide +kernel
theorem dX2_makeLong_39 : decode cX2_makeLong 39 = .ok (.aload_n 0, 1) := by decide +kernel
theorem dX2_makeLong_40 : decode cX2_makeLong 40 = .ok (.getfield 20, 3) := by decide +kernel
theorem dX2_makeLong_43 : decode cX2_makeLong 43 = .ok (.getfield 36, 3) := by decide +kernel
theorem dX2_makeLong_46 : decode cX2_makeLong 46 = .ok (.isub, 1) := by decide +kernel
theorem dX2_makeLong_47 : decode cX2_makeLong 47 = .ok (.istore_n 2, 1) := by decide +kernel
theorem dX2_makeLong_48 : decode cX2_makeLong 48 = .ok (.aload_n 0, 1) := by decide +kernel
theorem dX2_makeLong_49 : decode cX2_makeLong 49 = .ok (.iload_n 2, 1) := by decide +kernel
theorem dX2_makeLong_50 : decode cX2_makeLong 50 = .ok (.iconst 0, 1) := by decide +kernel
theorem dX2_makeLong_51 : decode cX2_makeLong 51 = .ok (.invokevirtual 51, 3) := by decide +kernel
theorem dX2_makeLong_54 : decode cX2_makeLong 54 = .ok (.aload_n 0, 1) := by decide +kernel
theorem dX2_makeLong_55 : decode cX2_makeLong 55 = .ok (.iload_n 2, 1) := by decide +kernel
theorem dX2_makeLong_56 : decode cX2_makeLong 56 = .ok (.invokevirtual 55, 3) := by decide +kernel
theorem dX2_makeLong_59 : decode cX2_makeLong 59 = .ok (.return_, 1) := by decide +kernel
theorem dX2_takeStateAsMessage_0 : decode cX2_takeStateAsMessage 0 = .ok (.aload_n 0, 1) := by decide +kernel
theorem dX2_takeStateAsMessage_1 : decode cX2_takeStateAsMessage 1 = .ok (.getfield 16, 3) := by decide +kernel
theorem dX2_takeStateAsMessage_4 : decode cX2_takeStateAsMessage 4 = .ok (.invokevirtual 33, 3) := by decide +kernel
theorem dX2_takeStateAsMessage_7 : decode cX2_takeStateAsMessage 7 = .ok (.iconst 0, 1) := by decide +kernel
theorem dX2_takeStateAsMessage_8 : decode cX2_takeStateAsMessage 8 = .ok (.istore_n 1, 1) := by decide +kernel
theorem dX2_takeStateAsMessage_9 : decode cX2_takeStateAsMessage 9 = .ok (.iload_n 1, 1) := by decide +kernel
theorem dX2_takeStateAsMessage_10 : decode cX2_takeStateAsMessage 10 = .ok (.bipush 8, 2) := by decide +kernel
theorem dX2_takeStateAsMessage_12 : decode cX2_takeStateAsMessage 12 = .ok (.if_icmp .ge 24, 3) := by decide +kernel
theorem dX2_takeStateAsMessage_15 : decode cX2_takeStateAsMessage 15 = .ok (.aload_n 0, 1) := by decide +kernel
theorem dX2_takeStateAsMessage_16 : decode cX2_takeStateAsMessage 16 = .ok (.getfield 16, 3) := by decide +kernel
theorem dX2_takeStateAsMessage_19 : decode cX2_takeStateAsMessage 19 = .ok (.aload_n 0, 1) := by decide +kernel
theorem dX2_takeStateAsMessage_20 : decode cX2_takeStateAsMessage 20 = .ok (.getfield 23, 3) := by decide +kernel
theorem dX2_takeStateAsMessage_23 : decode cX2_takeStateAsMessage 23 = .ok (.iload_n 1, 1) := by decide +kernel
theorem dX2_takeStateAsMessage_24 : decode cX2_takeStateAsMessage 24 = .ok (.laload, 1) := by decide +kernel
theorem dX2_takeStateAsMessage_25 : decode cX2_takeStateAsMessage 25 = .ok (.bipush 8, 2) := by decide +kernel
theorem dX2_takeStateAsMessage_27 : decode cX2_takeStateAsMessage 27 = .ok (.invokevirtual 47, 3) := by decide +kernel
theorem dX2_takeStateAsMessage_30 : decode cX2_takeStateAsMessage 30 = .ok (.iinc 1 1, 3) := by decide +kernel
theorem dX2_takeStateAsMessage_33 : decode cX2_takeStateAsMessage 33 = .ok (.goto (-24), 3) := by decide +kernel
theorem dX2_takeStateAsMessage_36 : decode cX2_takeStateAsMessage 36 = .ok (.return_, 1) := by decide +kernel
theorem dX2_give_0 : decode cX2_give 0 = .ok (.iconst 0, 1) := by decide +kernel
theorem dX2_give_1 : decode cX2_give 1 = .ok (.istore_n 2, 1) := by decide +kernel
theorem dX2_give_2 : decode cX2_give 2 = .ok (.iload_n 2, 1) := by decide +kernel
theorem dX2_give_3 : decode cX2_give 3 = .ok (.bipush 8, 2) := by decide +kernel
theorem dX2_give_5 : decode cX2_give 5 = .ok (.if_icmp .ge 33, 3) := by decide +kernel
theorem dX2_give_8 : decode cX2_give 8 = .ok (.aload_n 0, 1) := by decide +kernel
theorem dX2_give_9 : decode cX2_give 9 = .ok (.getfield 20, 3) := by decide +kernel
theorem dX2_give_12 : decode cX2_give 12 = .ok (.aload_n 0, 1) := by decide +kernel
theorem dX2_give_13 : decode cX2_give 13 = .ok (.getfield 23, 3) := by decide +kernel
theorem dX2_give_16 : decode cX2_give 16 = .ok (.iload_n 2, 1) := by decide +kernel
theorem dX2_give_17 : decode cX2_give 17 = .ok (.laload, 1) := by decide +kernel
theorem dX2_give_18 : decode cX2_give 18 = .ok (.bipush 8, 2) := by decide +kernel
theorem dX2_give_20 : decode cX2_give 20 = .ok (.iload_n 1, 1) := by decide +kernel
theorem dX2_give_21 : decode cX2_give 21 = .ok (.bipush 8, 2) := by decide +kernel
theorem dX2_give_23 : decode cX2_give 23 = .ok (.iload_n 2, 1) := by decide +kernel
theorem dX2_give_24 : decode cX2_give 24 = .ok (.imul, 1) := by decide +kernel
theorem dX2_give_25 : decode cX2_give 25 = .ok (.isub, 1) := by decide +kernel
theorem dX2_give_26 : decode cX2_give 26 = .ok (.invokestatic 61, 3) := by decide +kernel
theorem dX2_give_29 : decode cX2_give 29 = .ok (.invokevirtual 47, 3) := by decide +kernel
theorem dX2_give_32 : decode cX2_give 32 = .ok (.iinc 2 1, 3) := by decide +kernel
theorem dX2_give_35 : decode cX2_give 35 = .ok (.goto (-33), 3) := by decide +kernel
theorem dX2_give_38 : decode cX2_give 38 = .ok (.return_, 1) := by decide +kernel
theorem dX2_digest_0 : decode cX2_digest 0 = .ok (.iconst 0, 1) := by decide +kernel
theorem dX2_digest_1 : decode cX2_digest 1 = .ok (.istore_n 3, 1) := by decide +kernel
theorem dX2_digest_2 : decode cX2_digest 2 = .ok (.iload_n 3, 1) := by decide +kernel
theorem dX2_digest_3 : decode cX2_digest 3 = .ok (.bipush 8, 2) := by decide +kernel
theorem dX2_digest_5 : decode cX2_digest 5 = .ok (.if_icmp .ge 20, 3) := by decide +kernel
theorem dX2_digest_8 : decode cX2_digest 8 = .ok (.aload_n 0, 1) := by decide +kernel
theorem dX2_digest_9 : decode cX2_digest 9 = .ok (.getfield 23, 3) := by decide +kernel
theorem dX2_digest_12 : decode cX2_digest 12 = .ok (.iload_n 3, 1) := by decide +kernel
theorem dX2_digest_13 : decode cX2_digest 13 = .ok (.getstatic 67, 3) := by decide +kernel
theorem dX2_digest_16 : decode cX2_digest 16 = .ok (.iload_n 3, 1) := by decide +kernel
theorem dX2_digest_17 : decode cX2_digest 17 = .ok (.laload, 1) := by decide +kernel
theorem dX2_digest_18 : decode cX2_digest 18 = .ok (.lastore, 1) := by decide +kernel
theorem dX2_digest_19 : decode cX2_digest 19 = .ok (.iinc 3 1, 3) := by decide +kernel
theorem dX2_digest_22 : decode cX2_digest 22 = .ok (.goto (-20), 3) := by decide +kernel
theorem dX2_digest_25 : decode cX2_digest 25 = .ok (.aload_n 0, 1) := by decide +kernel
theorem dX2_digest_26 : decode cX2_digest 26 = .ok (.getfield 23, 3) := by decide +kernel
theorem dX2_digest_29 : decode cX2_digest 29 = .ok (.iconst 0, 1) := by decide +kernel
theorem dX2_digest_30 : decode cX2_digest 30 = .ok (.dup2, 1) := by decide +kernel
theorem dX2_digest_31 : decode cX2_digest 31 = .ok (.laload, 1) := by decide +kernel
theorem dX2_digest_32 : decode cX2_digest 32 = .ok (.ldc 70, 2) := by decide +kernel
theorem dX2_digest_34 : decode cX2_digest 34 = .ok (.sipush 256, 3) := by decide +kernel
theorem dX2_digest_37 : decode cX2_digest 37 = .ok (.iload_n 2, 1) := by decide +kernel
theorem dX2_digest_38 : decode cX2_digest 38 = .ok (.imul, 1) := by decide +kernel
theorem dX2_digest_39 : decode cX2_digest 39 = .ok (.ixor, 1) := by decide +kernel
theorem dX2_digest_40 : decode cX2_digest 40 = .ok (.iload_n 1, 1) := by decide +kernel
theorem dX2_digest_41 : decode cX2_digest 41 = .ok (.ixor, 1) := by decide +kernel
theorem dX2_digest_42 : decode cX2_digest 42 = .ok (.i2l, 1) := by decide +kernel
theorem dX2_digest_43 : decode cX2_digest 43 = .ok (.lxor, 1) := by decide +kernel
theorem dX2_digest_44 : decode cX2_digest 44 = .ok (.lastore, 1) := by decide +kernel
theorem dX2_digest_45 : decode cX2_digest 45 = .ok (.iconst 1, 1) := by decide +kernel
theorem dX2_digest_46 : decode cX2_digest 46 = .ok (.aload_n 0, 1) := by decide +kernel
theorem dX2_digest_47 : decode cX2_digest 47 = .ok (.getfield 16, 3) := by decide +kernel
theorem dX2_digest_50 : decode cX2_digest 50 = .ok (.getfield 36, 3) := by decide +kernel
theorem dX2_digest_53 : decode cX2_digest 53 = .ok (.sipush 128, 3) := by decide +kernel
theorem dX2_digest_56 : decode cX2_digest 56 = .ok (.iadd, 1) := by decide +kernel
theorem dX2_digest_57 : decode cX2_digest 57 = .ok (.iconst 1, 1) := by decide +kernel
theorem dX2_digest_58 : decode cX2_digest 58 = .ok (.isub, 1) := by decide +kernel
theorem dX2_digest_59 : decode cX2_digest 59 = .ok (.sipush 128, 3) := by decide +kernel
theorem dX2_digest_62 : decode cX2_digest 62 = .ok (.idiv, 1) := by decide +kernel
theorem dX2_digest_63 : decode cX2_digest 63 = .ok (.invokestatic 71, 3) := by decide +kernel
theorem dX2_digest_66 : decode cX2_digest 66 = .ok (.istore_n 3, 1) := by decide +kernel
theorem dX2_digest_67 : decode cX2_digest 67 = .ok (.iconst 0, 1) := by decide +kernel
theorem dX2_digest_68 : decode cX2_digest 68 = .ok (.istore 4, 2) := by decide +kernel
theorem dX2_digest_70 : decode cX2_digest 70 = .ok (.iload 4, 2) := by decide +kernel
theorem dX2_digest_72 : decode cX2_digest 72 = .ok (.iload_n 3, 1) := by decide +kernel
theorem dX2_digest_73 : decode cX2_digest 73 = .ok (.if_icmp .ge 105, 3) := by decide +kernel
theorem dX2_digest_76 : decode cX2_digest 76 = .ok (.aload_n 0, 1) := by decide +kernel
theorem dX2_digest_77 : decode cX2_digest 77 = .ok (.iload 4, 2) := by decide +kernel
theorem dX2_digest_79 : decode cX2_digest 79 = .ok (.iload 4, 2) := by decide +kernel
theorem dX2_digest_81 : decode cX2_digest 81 = .ok (.iload_n 3, 1) := by decide +kernel
theorem dX2_digest_82 : decode cX2_digest 82 = .ok (.iconst 1, 1) := by decide +kernel
theorem dX2_digest_83 : decode cX2_digest 83 = .ok (.isub, 1) := by decide +kernel
theorem dX2_digest_84 : decode cX2_digest 84 = .ok (.if_icmp .ne 7, 3) := by decide +kernel
theorem dX2_digest_87 : decode cX2_digest 87 = .ok (.iconst 1, 1) := by decide +kernel
theorem dX2_digest_88 : decode cX2_digest 88 = .ok (.goto 4, 3) := by decide +kernel
theorem dX2_digest_91 : decode cX2_digest 91 = .ok (.iconst 0, 1) := by decide +kernel
theorem dX2_digest_92 : decode cX2_digest 92 = .ok (.invokevirtual 74, 3) := by decide +kernel
theorem dX2_digest_95 : decode cX2_digest 95 = .ok (.iconst 0, 1) := by decide +kernel
theorem dX2_digest_96 : decode cX2_digest 96 = .ok (.istore 5, 2) := by decide +kernel
theorem dX2_digest_98 : decode cX2_digest 98 = .ok (.iload 5, 2) := by decide +kernel
theorem dX2_digest_100 : decode cX2_digest 100 = .ok (.bipush 96, 2) := by decide +kernel
theorem dX2_digest_102 : decode cX2_digest 102 = .ok (.if_icmp .ge 66, 3) := by decide +kernel
theorem dX2_digest_105 : decode cX2_digest 105 = .ok (.iload 5, 2) := by decide +kernel
theorem dX2_digest_107 : decode cX2_digest 107 = .ok (.bipush 8, 2) := by decide +kernel
theorem dX2_digest_109 : decode cX2_digest 109 = .ok (.irem, 1) := by decide +kernel
theorem dX2_digest_110 : decode cX2_digest 110 = .ok (.istore 6, 2) := by decide +kernel
theorem dX2_digest_112 : decode cX2_digest 112 = .ok (.iload 5, 2) := by decide +kernel
theorem dX2_digest_114 : decode cX2_digest 114 = .ok (.bipush 8, 2) := by decide +kernel
theorem dX2_digest_116 : decode cX2_digest 116 = .ok (.idiv, 1) := by decide +kernel
theorem dX2_digest_117 : decode cX2_digest 117 = .ok (.bipush 10, 2) := by decide +kernel
theorem dX2_digest_119 : decode cX2_digest 119 = .ok (.irem, 1) := by decide +kernel
theorem dX2_digest_120 : decode cX2_digest 120 = .ok (.bipush 16, 2) := by decide +kernel
theorem dX2_digest_122 : decode cX2_digest 122 = .ok (.imul, 1) := by decide +kernel
theorem dX2_digest_123 : decode cX2_digest 123 = .ok (.iconst 2, 1) := by decide +kernel
theorem dX2_digest_124 : decode cX2_digest 124 = .ok (.iload 6, 2) := by decide +kernel
theorem dX2_digest_126 : decode cX2_digest 126 = .ok (.imul, 1) := by decide +kernel
theorem dX2_digest_127 : decode cX2_digest 127 = .ok (.iadd, 1) := by decide +kernel
theorem dX2_digest_128 : decode cX2_digest 128 = .ok (.istore 7, 2) := by decide +kernel
theorem dX2_digest_130 : decode cX2_digest 130 = .ok (.aload_n 0, 1) := by decide +kernel
theorem dX2_digest_131 : decode cX2_digest 131 = .ok (.iconst 4, 1) := by decide +kernel
theorem dX2_digest_132 : decode cX2_digest 132 = .ok (.iload 6, 2) := by decide +kernel
theorem dX2_digest_134 : decode cX2_digest 134 = .ok (.imul, 1) := by decide +kernel
theorem dX2_digest_135 : decode cX2_digest 135 = .ok (.aload_n 0, 1) := by decide +kernel
theorem dX2_digest_136 : decode cX2_digest 136 = .ok (.getfield 30, 3) := by decide +kernel
theorem dX2_digest_139 : decode cX2_digest 139 = .ok (.getstatic 78, 3) := by decide +kernel
theorem dX2_digest_142 : decode cX2_digest 142 = .ok (.iload 7, 2) := by decide +kernel
theorem dX2_digest_144 : decode cX2_digest 144 = .ok (.iaload, 1) := by decide +kernel
theorem dX2_digest_145 : decode cX2_digest 145 = .ok (.laload, 1) := by decide +kernel
theorem dX2_digest_146 : decode cX2_digest 146 = .ok (.aload_n 0, 1) := by decide +kernel
theorem dX2_digest_147 : decode cX2_digest 147 = .ok (.getfield 30, 3) := by decide +kernel
theorem dX2_digest_150 : decode cX2_digest 150 = .ok (.getstatic 78, 3) := by decide +kernel
theorem dX2_digest_153 : decode cX2_digest 153 = .ok (.iload 7, 2) := by decide +kernel
theorem dX2_digest_155 : decode cX2_digest 155 = .ok (.iconst 1, 1) := by decide +kernel
theorem dX2_digest_156 : decode cX2_digest 156 = .ok (.iadd, 1) := by decide +kernel
theorem dX2_digest_157 : decode cX2_digest 157 = .ok (.iaload, 1) := by decide +kernel
theorem dX2_digest_158 : decode cX2_digest 158 = .ok (.laload, 1) := by decide +kernel
theorem dX2_digest_159 : decode cX2_digest 159 = .ok (.invokevirtual 82, 3) := by decide +kernel
theorem dX2_digest_162 : decode cX2_digest 162 = .ok (.iinc 5 1, 3) := by decide +kernel
theorem dX2_digest_165 : decode cX2_digest 165 = .ok (.goto (-67), 3) := by decide +kernel
theorem dX2_digest_168 : decode cX2_digest 168 = .ok (.aload_n 0, 1) := by decide +kernel
theorem dX2_digest_169 : decode cX2_digest 169 = .ok (.invokevirtual 86, 3) := by decide +kernel
theorem dX2_digest_172 : decode cX2_digest 172 = .ok (.iinc 4 1, 3) := by decide +kernel
theorem dX2_digest_175 : decode cX2_digest 175 = .ok (.goto (-105), 3) := by decide +kernel
theorem dX2_digest_178 : decode cX2_digest 178 = .ok (.return_, 1) := by decide +kernel
theorem dX2_loadPart_0 : decode cX2_loadPart 0 = .ok (.iconst 0, 1) := by decide +kernel
theorem dX2_loadPart_1 : decode cX2_loadPart 1 = .ok (.istore_n 3, 1) := by decide +kernel
theorem dX2_loadPart_2 : decode cX2_loadPart 2 = .ok (.iload_n 3, 1) := by decide +kernel
theorem dX2_loadPart_3 : decode cX2_loadPart 3 = .ok (.bipush 16, 2) := by decide +kernel
theorem dX2_loadPart_5 : decode cX2_loadPart 5 = .ok (.if_icmp .ge 32, 3) := by decide +kernel
theorem dX2_loadPart_8 : decode cX2_loadPart 8 = .ok (.aload_n 0, 1) := by decide +kernel
theorem dX2_loadPart_9 : decode cX2_loadPart 9 = .ok (.getfield 30, 3) := by decide +kernel
theorem dX2_loadPart_12 : decode cX2_loadPart 12 = .ok (.iload_n 3, 1) := by decide +kernel
theorem dX2_loadPart_13 : decode cX2_loadPart 13 = .ok (.aload_n 0, 1) := by decide +kernel
theorem dX2_loadPart_14 : decode cX2_loadPart 14 = .ok (.getfield 16, 3) := by decide +kernel
theorem dX2_loadPart_17 : decode cX2_loadPart 17 = .ok (.iload_n 1, 1) := by decide +kernel
theorem dX2_loadPart_18 : decode cX2_loadPart 18 = .ok (.sipush 128, 3) := by decide +kernel
theorem dX2_loadPart_21 : decode cX2_loadPart 21 = .ok (.imul, 1) := by decide +kernel
theorem dX2_loadPart_22 : decode cX2_loadPart 22 = .ok (.iload_n 3, 1) := by decide +kernel
theorem dX2_loadPart_23 : decode cX2_loadPart 23 = .ok (.bipush 8, 2) := by decide +kernel
theorem dX2_loadPart_25 : decode cX2_loadPart 25 = .ok (.imul, 1) := by decide +kernel
theorem dX2_loadPart_26 : decode cX2_loadPart 26 = .ok (.iadd, 1) := by decide +kernel
theorem dX2_loadPart_27 : decode cX2_loadPart 27 = .ok (.invokevirtual 89, 3) := by decide +kernel
theorem dX2_loadPart_30 : decode cX2_loadPart 30 = .ok (.lastore, 1) := by decide +kernel
theorem dX2_loadPart_31 : decode cX2_loadPart 31 = .ok (.iinc 3 1, 3) := by decide +kernel
theorem dX2_loadPart_34 : decode cX2_loadPart 34 = .ok (.goto (-32), 3) := by decide +kernel
theorem dX2_loadPart_37 : decode cX2_loadPart 37 = .ok (.iconst 0, 1) := by decide +kernel
theorem dX2_loadPart_38 : decode cX2_loadPart 38 = .ok (.istore_n 3, 1) := by decide +kernel
theorem dX2_loadPart_39 : decode cX2_loadPart 39 = .ok (.iload_n 3, 1) := by decide +kernel
theorem dX2_loadPart_40 : decode cX2_loadPart 40 = .ok (.bipush 8, 2) := by decide +kernel
theorem dX2_loadPart_42 : decode cX2_loadPart 42 = .ok (.if_icmp .ge 35, 3) := by decide +kernel
theorem dX2_loadPart_45 : decode cX2_loadPart 45 = .ok (.aload_n 0, 1) := by decide +kernel
theorem dX2_loadPart_46 : decode cX2_loadPart 46 = .ok (.getfield 27, 3) := by decide +kernel
theorem dX2_loadPart_49 : decode cX2_loadPart 49 = .ok (.iload_n 3, 1) := by decide +kernel
theorem dX2_loadPart_50 : decode cX2_loadPart 50 = .ok (.aload_n 0, 1) := by decide +kernel
theorem dX2_loadPart_51 : decode cX2_loadPart 51 = .ok (.getfield 23, 3) := by decide +kernel
theorem dX2_loadPart_54 : decode cX2_loadPart 54 = .ok (.iload_n 3, 1) := by decide +kernel
theorem dX2_loadPart_55 : decode cX2_loadPart 55 = .ok (.laload, 1) := by decide +kernel
theorem dX2_loadPart_56 : decode cX2_loadPart 56 = .ok (.lastore, 1) := by decide +kernel
theorem dX2_loadPart_57 : decode cX2_loadPart 57 = .ok (.aload_n 0, 1) := by decide +kernel
theorem dX2_loadPart_58 : decode cX2_loadPart 58 = .ok (.getfield 27, 3) := by decide +kernel
theorem dX2_loadPart_61 : decode cX2_loadPart 61 = .ok (.bipush 8, 2) := by decide +kernel
theorem dX2_loadPart_63 : decode cX2_loadPart 63 = .ok (.iload_n 3, 1) := by decide +kernel
theorem dX2_loadPart_64 : decode cX2_loadPart 64 = .ok (.iadd, 1) := by decide +kernel
theorem dX2_loadPart_65 : decode cX2_loadPart 65 = .ok (.getstatic 67, 3) := by decide +kernel
theorem dX2_loadPart_68 : decode cX2_loadPart 68 = .ok (.iload_n 3, 1) := by decide +kernel
theorem dX2_loadPart_69 : decode cX2_loadPart 69 = .ok (.laload, 1) := by decide +kernel
theorem dX2_loadPart_70 : decode cX2_loadPart 70 = .ok (.lastore, 1) := by decide +kernel
theorem dX2_loadPart_71 : decode cX2_loadPart 71 = .ok (.iinc 3 1, 3) := by decide +kernel
theorem dX2_loadPart_74 : decode cX2_loadPart 74 = .ok (.goto (-35), 3) := by decide +kernel
theorem dX2_loadPart_77 : decode cX2_loadPart 77 = .ok (.aload_n 0, 1) := by decide +kernel
theorem dX2_loadPart_78 : decode cX2_loadPart 78 = .ok (.getfield 27, 3) := by decide +kernel
theorem dX2_loadPart_81 : decode cX2_loadPart 81 = .ok (.bipush 12, 2) := by decide +kernel
theorem dX2_loadPart_83 : decode cX2_loadPart 83 = .ok (.dup2, 1) := by decide +kernel
theorem dX2_loadPart_84 : decode cX2_loadPart 84 = .ok (.laload, 1) := by decide +kernel
theorem dX2_loadPart_85 : decode cX2_loadPart 85 = .ok (.aload_n 0, 1) := by decide +kernel
theorem dX2_loadPart_86 : decode cX2_loadPart 86 = .ok (.getfield 16, 3) := by decide +kernel
theorem dX2_loadPart_89 : decode cX2_loadPart 89 = .ok (.getfield 36, 3) := by decide +kernel
theorem dX2_loadPart_92 : decode cX2_loadPart 92 = .ok (.iload_n 1, 1) := by decide +kernel
theorem dX2_loadPart_93 : decode cX2_loadPart 93 = .ok (.iconst 1, 1) := by decide +kernel
theorem dX2_loadPart_94 : decode cX2_loadPart 94 = .ok (.iadd, 1) := by decide +kernel
theorem dX2_loadPart_95 : decode cX2_loadPart 95 = .ok (.sipush 128, 3) := by decide +kernel
theorem dX2_loadPart_98 : decode cX2_loadPart 98 = .ok (.imul, 1) := by decide +kernel
theorem dX2_loadPart_99 : decode cX2_loadPart 99 = .ok (.invokestatic 61, 3) := by decide +kernel
theorem dX2_loadPart_102 : decode cX2_loadPart 102 = .ok (.i2l, 1) := by decide +kernel
theorem dX2_loadPart_103 : decode cX2_loadPart 103 = .ok (.lxor, 1) := by decide +kernel
theorem dX2_loadPart_104 : decode cX2_loadPart 104 = .ok (.lastore, 1) := by decide +kernel
theorem dX2_loadPart_105 : decode cX2_loadPart 105 = .ok (.iload_n 2, 1) := by decide +kernel
theorem dX2_loadPart_106 : decode cX2_loadPart 106 = .ok (.ifCond .eq 21, 3) := by decide +kernel
theorem dX2_loadPart_109 : decode cX2_loadPart 109 = .ok (.aload_n 0, 1) := by decide +kernel
theorem dX2_loadPart_110 : decode cX2_loadPart 110 = .ok (.getfield 27, 3) := by decide +kernel
theorem dX2_loadPart_113 : decode cX2_loadPart 113 = .ok (.bipush 14, 2) := by decide +kernel
theorem dX2_loadPart_115 : decode cX2_loadPart 115 = .ok (.aload_n 0, 1) := by decide +kernel
theorem dX2_loadPart_116 : decode cX2_loadPart 116 = .ok (.getfield 27, 3) := by decide +kernel
theorem dX2_loadPart_119 : decode cX2_loadPart 119 = .ok (.bipush 14, 2) := by decide +kernel
theorem dX2_loadPart_121 : decode cX2_loadPart 121 = .ok (.laload, 1) := by decide +kernel
theorem dX2_loadPart_122 : decode cX2_loadPart 122 = .ok (.ldc2_w 93, 3) := by decide +kernel
theorem dX2_loadPart_125 : decode cX2_loadPart 125 = .ok (.lxor, 1) := by decide +kernel
theorem dX2_loadPart_126 : decode cX2_loadPart 126 = .ok (.lastore, 1) := by decide +kernel
theorem dX2_loadPart_127 : decode cX2_loadPart 127 = .ok (.return_, 1) := by decide +kernel
theorem dX2_foldPart_0 : decode cX2_foldPart 0 = .ok (.iconst 0, 1) := by decide +kernel
theorem dX2_foldPart_1 : decode cX2_foldPart 1 = .ok (.istore_n 1, 1) := by decide +kernel
theorem dX2_foldPart_2 : decode cX2_foldPart 2 = .ok (.iload_n 1, 1) := by decide +kernel
theorem dX2_foldPart_3 : decode cX2_foldPart 3 = .ok (.bipush 8, 2) := by decide +kernel
theorem dX2_foldPart_5 : decode cX2_foldPart 5 = .ok (.if_icmp .ge 34, 3) := by decide +kernel
theorem dX2_foldPart_8 : decode cX2_foldPart 8 = .ok (.aload_n 0, 1) := by decide +kernel
theorem dX2_foldPart_9 : decode cX2_foldPart 9 = .ok (.getfield 23, 3) := by decide +kernel
theorem dX2_foldPart_12 : decode cX2_foldPart 12 = .ok (.iload_n 1, 1) := by decide +kernel
theorem dX2_foldPart_13 : decode cX2_foldPart 13 = .ok (.dup2, 1) := by decide +kernel
theorem dX2_foldPart_14 : decode cX2_foldPart 14 = .ok (.laload, 1) := by decide +kernel
theorem dX2_foldPart_15 : decode cX2_foldPart 15 = .ok (.aload_n 0, 1) := by decide +kernel
theorem dX2_foldPart_16 : decode cX2_foldPart 16 = .ok (.getfield 27, 3) := by decide +kernel
theorem dX2_foldPart_19 : decode cX2_foldPart 19 = .ok (.iload_n 1, 1) := by decide +kernel
theorem dX2_foldPart_20 : decode cX2_foldPart 20 = .ok (.laload, 1) := by decide +kernel
theorem dX2_foldPart_21 : decode cX2_foldPart 21 = .ok (.aload_n 0, 1) := by decide +kernel
theorem dX2_foldPart_22 : decode cX2_foldPart 22 = .ok (.getfield 27, 3) := by decide +kernel
theorem dX2_foldPart_25 : decode cX2_foldPart 25 = .ok (.bipush 8, 2) := by decide +kernel
theorem dX2_foldPart_27 : decode cX2_foldPart 27 = .ok (.iload_n 1, 1) := by decide +kernel
theorem dX2_foldPart_28 : decode cX2_foldPart 28 = .ok (.iadd, 1) := by decide +kernel
theorem dX2_foldPart_29 : decode cX2_foldPart 29 = .ok (.laload, 1) := by decide +kernel
theorem dX2_foldPart_30 : decode cX2_foldPart 30 = .ok (.lxor, 1) := by decide +kernel
theorem dX2_foldPart_31 : decode cX2_foldPart 31 = .ok (.lxor, 1) := by decide +kernel
theorem dX2_foldPart_32 : decode cX2_foldPart 32 = .ok (.lastore, 1) := by decide +kernel
theorem dX2_foldPart_33 : decode cX2_foldPart 33 = .ok (.iinc 1 1, 3) := by decide +kernel
theorem dX2_foldPart_36 : decode cX2_foldPart 36 = .ok (.goto (-34), 3) := by decide +kernel
theorem dX2_foldPart_39 : decode cX2_foldPart 39 = .ok (.return_, 1) := by decide +kernel
