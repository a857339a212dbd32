theorem dX5_longTo_0 : decode cX5_longTo 0 = .ok (.iconst 0, 1) := by decide +kernel
theorem dX5_longTo_1 : decode cX5_longTo 1 = .ok (.istore_n 2, 1) := by decide +kernel
theorem dX5_longTo_2 : decode cX5_longTo 2 = .ok (.iload_n 2, 1) := by decide +kernel
theorem dX5_longTo_3 : decode cX5_longTo 3 = .ok (.iconst 4, 1) := by decide +kernel
theorem dX5_longTo_4 : decode cX5_longTo 4 = .ok (.if_icmp .ge 25, 3) := by decide +kernel
theorem dX5_longTo_7 : decode cX5_longTo 7 = .ok (.aload_n 0, 1) := by decide +kernel
theorem dX5_longTo_8 : decode cX5_longTo 8 = .ok (.getfield 19, 3) := by decide +kernel
theorem dX5_longTo_11 : decode cX5_longTo 11 = .ok (.iload_n 2, 1) := by decide +kernel
theorem dX5_longTo_12 : decode cX5_longTo 12 = .ok (.iload_n 1, 1) := by decide +kernel
theorem dX5_longTo_13 : decode cX5_longTo 13 = .ok (.bipush 8, 2) := by decide +kernel
theorem dX5_longTo_15 : decode cX5_longTo 15 = .ok (.iload_n 2, 1) := by decide +kernel
theorem dX5_longTo_16 : decode cX5_longTo 16 = .ok (.imul, 1) := by decide +kernel
theorem dX5_longTo_17 : decode cX5_longTo 17 = .ok (.ishr, 1) := by decide +kernel
theorem dX5_longTo_18 : decode cX5_longTo 18 = .ok (.sipush 255, 3) := by decide +kernel
theorem dX5_longTo_21 : decode cX5_longTo 21 = .ok (.iand, 1) := by decide +kernel
theorem dX5_longTo_22 : decode cX5_longTo 22 = .ok (.iastore, 1) := by decide +kernel
theorem dX5_longTo_23 : decode cX5_longTo 23 = .ok (.iinc 2 1, 3) := by decide +kernel
theorem dX5_longTo_26 : decode cX5_longTo 26 = .ok (.goto (-24), 3) := by decide +kernel
theorem dX5_longTo_29 : decode cX5_longTo 29 = .ok (.iload_n 1, 1) := by decide +kernel
theorem dX5_longTo_30 : decode cX5_longTo 30 = .ok (.bipush 64, 2) := by decide +kernel
theorem dX5_longTo_32 : decode cX5_longTo 32 = .ok (.if_icmp .gt 10, 3) := by decide +kernel
theorem dX5_longTo_35 : decode cX5_longTo 35 = .ok (.aload_n 0, 1) := by decide +kernel
theorem dX5_longTo_36 : decode cX5_longTo 36 = .ok (.iconst 0, 1) := by decide +kernel
theorem dX5_longTo_37 : decode cX5_longTo 37 = .ok (.iload_n 1, 1) := by decide +kernel
theorem dX5_longTo_38 : decode cX5_longTo 38 = .ok (.invokevirtual 140, 3) := by decide +kernel
theorem dX5_longTo_41 : decode cX5_longTo 41 = .ok (.return_, 1) := by decide +kernel
theorem dX5_longTo_42 : decode cX5_longTo 42 = .ok (.aload_n 0, 1) := by decide +kernel
theorem dX5_longTo_43 : decode cX5_longTo 43 = .ok (.iconst 0, 1) := by decide +kernel
theorem dX5_longTo_44 : decode cX5_longTo 44 = .ok (.bipush 64, 2) := by decide +kernel
theorem dX5_longTo_46 : decode cX5_longTo 46 = .ok (.invokevirtual 140, 3) := by decide +kernel
theorem dX5_longTo_49 : decode cX5_longTo 49 = .ok (.iconst 0, 1) := by decide +kernel
theorem dX5_longTo_50 : decode cX5_longTo 50 = .ok (.istore_n 2, 1) := by decide +kernel
theorem dX5_longTo_51 : decode cX5_longTo 51 = .ok (.iload_n 1, 1) := by decide +kernel
theorem dX5_longTo_52 : decode cX5_longTo 52 = .ok (.iload_n 2, 1) := by decide +kernel
theorem dX5_longTo_53 : decode cX5_longTo 53 = .ok (.isub, 1) := by decide +kernel
theorem dX5_longTo_54 : decode cX5_longTo 54 = .ok (.bipush 64, 2) := by decide +kernel
theorem dX5_longTo_56 : decode cX5_longTo 56 = .ok (.if_icmp .le 63, 3) := by decide +kernel
theorem dX5_longTo_59 : decode cX5_longTo 59 = .ok (.aload_n 0, 1) := by decide +kernel
theorem dX5_longTo_60 : decode cX5_longTo 60 = .ok (.iconst 0, 1) := by decide +kernel
theorem dX5_longTo_61 : decode cX5_longTo 61 = .ok (.putfield 109, 3) := by decide +kernel
theorem dX5_longTo_64 : decode cX5_longTo 64 = .ok (.iconst 0, 1) := by decide +kernel
theorem dX5_longTo_65 : decode cX5_longTo 65 = .ok (.istore_n 3, 1) := by decide +kernel
theorem dX5_longTo_66 : decode cX5_longTo 66 = .ok (.iload_n 3, 1) := by decide +kernel
theorem dX5_longTo_67 : decode cX5_longTo 67 = .ok (.bipush 64, 2) := by decide +kernel
theorem dX5_longTo_69 : decode cX5_longTo 69 = .ok (.if_icmp .ge 23, 3) := by decide +kernel
theorem dX5_longTo_72 : decode cX5_longTo 72 = .ok (.aload_n 0, 1) := by decide +kernel
theorem dX5_longTo_73 : decode cX5_longTo 73 = .ok (.iconst 1, 1) := by decide +kernel
theorem dX5_longTo_74 : decode cX5_longTo 74 = .ok (.aload_n 0, 1) := by decide +kernel
theorem dX5_longTo_75 : decode cX5_longTo 75 = .ok (.getfield 32, 3) := by decide +kernel
theorem dX5_longTo_78 : decode cX5_longTo 78 = .ok (.iload_n 2, 1) := by decide +kernel
theorem dX5_longTo_79 : decode cX5_longTo 79 = .ok (.iload_n 3, 1) := by decide +kernel
theorem dX5_longTo_80 : decode cX5_longTo 80 = .ok (.iadd, 1) := by decide +kernel
theorem dX5_longTo_81 : decode cX5_longTo 81 = .ok (.iaload, 1) := by decide +kernel
theorem dX5_longTo_82 : decode cX5_longTo 82 = .ok (.i2l, 1) := by decide +kernel
theorem dX5_longTo_83 : decode cX5_longTo 83 = .ok (.invokevirtual 144, 3) := by decide +kernel
theorem dX5_longTo_86 : decode cX5_longTo 86 = .ok (.iinc 3 1, 3) := by decide +kernel
theorem dX5_longTo_89 : decode cX5_longTo 89 = .ok (.goto (-23), 3) := by decide +kernel
theorem dX5_longTo_92 : decode cX5_longTo 92 = .ok (.iinc 2 32, 3) := by decide +kernel
theorem dX5_longTo_95 : decode cX5_longTo 95 = .ok (.aload_n 0, 1) := by decide +kernel
theorem dX5_longTo_96 : decode cX5_longTo 96 = .ok (.iload_n 2, 1) := by decide +kernel
theorem dX5_longTo_97 : decode cX5_longTo 97 = .ok (.iload_n 1, 1) := by decide +kernel
theorem dX5_longTo_98 : decode cX5_longTo 98 = .ok (.iload_n 2, 1) := by decide +kernel
theorem dX5_longTo_99 : decode cX5_longTo 99 = .ok (.isub, 1) := by decide +kernel
theorem dX5_longTo_100 : decode cX5_longTo 100 = .ok (.bipush 64, 2) := by decide +kernel
theorem dX5_longTo_102 : decode cX5_longTo 102 = .ok (.if_icmp .le 8, 3) := by decide +kernel
theorem dX5_longTo_105 : decode cX5_longTo 105 = .ok (.bipush 64, 2) := by decide +kernel
theorem dX5_longTo_107 : decode cX5_longTo 107 = .ok (.goto 6, 3) := by decide +kernel
theorem dX5_longTo_110 : decode cX5_longTo 110 = .ok (.iload_n 1, 1) := by decide +kernel
theorem dX5_longTo_111 : decode cX5_longTo 111 = .ok (.iload_n 2, 1) := by decide +kernel
theorem dX5_longTo_112 : decode cX5_longTo 112 = .ok (.isub, 1) := by decide +kernel
theorem dX5_longTo_113 : decode cX5_longTo 113 = .ok (.invokevirtual 140, 3) := by decide +kernel
theorem dX5_longTo_116 : decode cX5_longTo 116 = .ok (.goto (-65), 3) := by decide +kernel
theorem dX5_longTo_119 : decode cX5_longTo 119 = .ok (.return_, 1) := by decide +kernel
theorem dX5_hash_0 : decode cX5_hash 0 = .ok (.aload_n 0, 1) := by decide +kernel
theorem dX5_hash_1 : decode cX5_hash 1 = .ok (.iconst 0, 1) := by decide +kernel
theorem dX5_hash_2 : decode cX5_hash 2 = .ok (.putfield 50, 3) := by decide +kernel
theorem dX5_hash_5 : decode cX5_hash 5 = .ok (.iload_n 1, 1) := by decide +kernel
theorem dX5_hash_6 : decode cX5_hash 6 = .ok (.invokestatic 58, 3) := by decide +kernel
theorem dX5_hash_9 : decode cX5_hash 9 = .ok (.ifCond .eq 44, 3) := by decide +kernel
theorem dX5_hash_12 : decode cX5_hash 12 = .ok (.iload_n 2, 1) := by decide +kernel
theorem dX5_hash_13 : decode cX5_hash 13 = .ok (.invokestatic 58, 3) := by decide +kernel
theorem dX5_hash_16 : decode cX5_hash 16 = .ok (.ifCond .eq 37, 3) := by decide +kernel
theorem dX5_hash_19 : decode cX5_hash 19 = .ok (.iload_n 3, 1) := by decide +kernel
theorem dX5_hash_20 : decode cX5_hash 20 = .ok (.iconst (-1), 1) := by decide +kernel
theorem dX5_hash_21 : decode cX5_hash 21 = .ok (.if_icmp .eq 21, 3) := by decide +kernel
theorem dX5_hash_24 : decode cX5_hash 24 = .ok (.iload_n 3, 1) := by decide +kernel
theorem dX5_hash_25 : decode cX5_hash 25 = .ok (.invokestatic 58, 3) := by decide +kernel
theorem dX5_hash_28 : decode cX5_hash 28 = .ok (.ifCond .eq 25, 3) := by decide +kernel
theorem dX5_hash_31 : decode cX5_hash 31 = .ok (.aload_n 0, 1) := by decide +kernel
theorem dX5_hash_32 : decode cX5_hash 32 = .ok (.getfield 7, 3) := by decide +kernel
theorem dX5_hash_35 : decode cX5_hash 35 = .ok (.iload_n 3, 1) := by decide +kernel
theorem dX5_hash_36 : decode cX5_hash 36 = .ok (.iaload, 1) := by decide +kernel
theorem dX5_hash_37 : decode cX5_hash 37 = .ok (.bipush 64, 2) := by decide +kernel
theorem dX5_hash_39 : decode cX5_hash 39 = .ok (.if_icmp .gt 14, 3) := by decide +kernel
theorem dX5_hash_42 : decode cX5_hash 42 = .ok (.iload 4, 2) := by decide +kernel
theorem dX5_hash_44 : decode cX5_hash 44 = .ok (.iconst 1, 1) := by decide +kernel
theorem dX5_hash_45 : decode cX5_hash 45 = .ok (.bipush 64, 2) := by decide +kernel
theorem dX5_hash_47 : decode cX5_hash 47 = .ok (.invokestatic 54, 3) := by decide +kernel
theorem dX5_hash_50 : decode cX5_hash 50 = .ok (.ifCond .ne 6, 3) := by decide +kernel
theorem dX5_hash_53 : decode cX5_hash 53 = .ok (.bipush (-2), 2) := by decide +kernel
theorem dX5_hash_55 : decode cX5_hash 55 = .ok (.ireturn, 1) := by decide +kernel
theorem dX5_hash_56 : decode cX5_hash 56 = .ok (.aload_n 0, 1) := by decide +kernel
theorem dX5_hash_57 : decode cX5_hash 57 = .ok (.iconst 0, 1) := by decide +kernel
theorem dX5_hash_58 : decode cX5_hash 58 = .ok (.putfield 109, 3) := by decide +kernel
theorem dX5_hash_61 : decode cX5_hash 61 = .ok (.aload_n 0, 1) := by decide +kernel
theorem dX5_hash_62 : decode cX5_hash 62 = .ok (.iload_n 2, 1) := by decide +kernel
theorem dX5_hash_63 : decode cX5_hash 63 = .ok (.invokevirtual 148, 3) := by decide +kernel
theorem dX5_hash_66 : decode cX5_hash 66 = .ok (.aload_n 0, 1) := by decide +kernel
theorem dX5_hash_67 : decode cX5_hash 67 = .ok (.iload_n 3, 1) := by decide +kernel
theorem dX5_hash_68 : decode cX5_hash 68 = .ok (.iconst (-1), 1) := by decide +kernel
theorem dX5_hash_69 : decode cX5_hash 69 = .ok (.if_icmp .ne 7, 3) := by decide +kernel
theorem dX5_hash_72 : decode cX5_hash 72 = .ok (.iconst 0, 1) := by decide +kernel
theorem dX5_hash_73 : decode cX5_hash 73 = .ok (.goto 9, 3) := by decide +kernel
theorem dX5_hash_76 : decode cX5_hash 76 = .ok (.aload_n 0, 1) := by decide +kernel
theorem dX5_hash_77 : decode cX5_hash 77 = .ok (.getfield 7, 3) := by decide +kernel
theorem dX5_hash_80 : decode cX5_hash 80 = .ok (.iload_n 3, 1) := by decide +kernel
theorem dX5_hash_81 : decode cX5_hash 81 = .ok (.iaload, 1) := by decide +kernel
theorem dX5_hash_82 : decode cX5_hash 82 = .ok (.putfield 106, 3) := by decide +kernel
theorem dX5_hash_85 : decode cX5_hash 85 = .ok (.iconst 0, 1) := by decide +kernel
theorem dX5_hash_86 : decode cX5_hash 86 = .ok (.istore 5, 2) := by decide +kernel
theorem dX5_hash_88 : decode cX5_hash 88 = .ok (.iload 5, 2) := by decide +kernel
theorem dX5_hash_90 : decode cX5_hash 90 = .ok (.aload_n 0, 1) := by decide +kernel
theorem dX5_hash_91 : decode cX5_hash 91 = .ok (.getfield 106, 3) := by decide +kernel
theorem dX5_hash_94 : decode cX5_hash 94 = .ok (.if_icmp .ge 29, 3) := by decide +kernel
theorem dX5_hash_97 : decode cX5_hash 97 = .ok (.aload_n 0, 1) := by decide +kernel
theorem dX5_hash_98 : decode cX5_hash 98 = .ok (.getfield 16, 3) := by decide +kernel
theorem dX5_hash_101 : decode cX5_hash 101 = .ok (.iload 5, 2) := by decide +kernel
theorem dX5_hash_103 : decode cX5_hash 103 = .ok (.aload_n 0, 1) := by decide +kernel
theorem dX5_hash_104 : decode cX5_hash 104 = .ok (.getfield 13, 3) := by decide +kernel
theorem dX5_hash_107 : decode cX5_hash 107 = .ok (.sipush 200, 3) := by decide +kernel
theorem dX5_hash_110 : decode cX5_hash 110 = .ok (.iload_n 3, 1) := by decide +kernel
theorem dX5_hash_111 : decode cX5_hash 111 = .ok (.imul, 1) := by decide +kernel
theorem dX5_hash_112 : decode cX5_hash 112 = .ok (.iload 5, 2) := by decide +kernel
theorem dX5_hash_114 : decode cX5_hash 114 = .ok (.iadd, 1) := by decide +kernel
theorem dX5_hash_115 : decode cX5_hash 115 = .ok (.iaload, 1) := by decide +kernel
theorem dX5_hash_116 : decode cX5_hash 116 = .ok (.iastore, 1) := by decide +kernel
theorem dX5_hash_117 : decode cX5_hash 117 = .ok (.iinc 5 1, 3) := by decide +kernel
theorem dX5_hash_120 : decode cX5_hash 120 = .ok (.goto (-32), 3) := by decide +kernel
theorem dX5_hash_123 : decode cX5_hash 123 = .ok (.aload_n 0, 1) := by decide +kernel
theorem dX5_hash_124 : decode cX5_hash 124 = .ok (.iconst 0, 1) := by decide +kernel
theorem dX5_hash_125 : decode cX5_hash 125 = .ok (.iload 4, 2) := by decide +kernel
theorem dX5_hash_127 : decode cX5_hash 127 = .ok (.invokevirtual 140, 3) := by decide +kernel
theorem dX5_hash_130 : decode cX5_hash 130 = .ok (.aload_n 0, 1) := by decide +kernel
theorem dX5_hash_131 : decode cX5_hash 131 = .ok (.iload_n 1, 1) := by decide +kernel
theorem dX5_hash_132 : decode cX5_hash 132 = .ok (.iload 4, 2) := by decide +kernel
theorem dX5_hash_134 : decode cX5_hash 134 = .ok (.invokevirtual 152, 3) := by decide +kernel
theorem dX5_hash_137 : decode cX5_hash 137 = .ok (.iload 4, 2) := by decide +kernel
theorem dX5_hash_139 : decode cX5_hash 139 = .ok (.ireturn, 1) := by decide +kernel
theorem dX5_longHash_0 : decode cX5_longHash 0 = .ok (.aload_n 0, 1) := by decide +kernel
theorem dX5_longHash_1 : decode cX5_longHash 1 = .ok (.iconst 0, 1) := by decide +kernel
theorem dX5_longHash_2 : decode cX5_longHash 2 = .ok (.putfield 50, 3) := by decide +kernel
theorem dX5_longHash_5 : decode cX5_longHash 5 = .ok (.iload_n 1, 1) := by decide +kernel
theorem dX5_longHash_6 : decode cX5_longHash 6 = .ok (.invokestatic 58, 3) := by decide +kernel
theorem dX5_longHash_9 : decode cX5_longHash 9 = .ok (.ifCond .eq 21, 3) := by decide +kernel
theorem dX5_longHash_12 : decode cX5_longHash 12 = .ok (.iload_n 2, 1) := by decide +kernel
theorem dX5_longHash_13 : decode cX5_longHash 13 = .ok (.invokestatic 58, 3) := by decide +kernel
theorem dX5_longHash_16 : decode cX5_longHash 16 = .ok (.ifCond .eq 14, 3) := by decide +kernel
theorem dX5_longHash_19 : decode cX5_longHash 19 = .ok (.iload_n 3, 1) := by decide +kernel
theorem dX5_longHash_20 : decode cX5_longHash 20 = .ok (.iconst 1, 1) := by decide +kernel
theorem dX5_longHash_21 : decode cX5_longHash 21 = .ok (.sipush 200, 3) := by decide +kernel
theorem dX5_longHash_24 : decode cX5_longHash 24 = .ok (.invokestatic 54, 3) := by decide +kernel
theorem dX5_longHash_27 : decode cX5_longHash 27 = .ok (.ifCond .ne 6, 3) := by decide +kernel
theorem dX5_longHash_30 : decode cX5_longHash 30 = .ok (.bipush (-2), 2) := by decide +kernel
theorem dX5_longHash_32 : decode cX5_longHash 32 = .ok (.ireturn, 1) := by decide +kernel
theorem dX5_longHash_33 : decode cX5_longHash 33 = .ok (.aload_n 0, 1) := by decide +kernel
theorem dX5_longHash_34 : decode cX5_longHash 34 = .ok (.iconst 4, 1) := by decide +kernel
theorem dX5_longHash_35 : decode cX5_longHash 35 = .ok (.putfield 109, 3) := by decide +kernel
theorem dX5_longHash_38 : decode cX5_longHash 38 = .ok (.aload_n 0, 1) := by decide +kernel
theorem dX5_longHash_39 : decode cX5_longHash 39 = .ok (.iload_n 2, 1) := by decide +kernel
theorem dX5_longHash_40 : decode cX5_longHash 40 = .ok (.invokevirtual 148, 3) := by decide +kernel
theorem dX5_longHash_43 : decode cX5_longHash 43 = .ok (.aload_n 0, 1) := by decide +kernel
theorem dX5_longHash_44 : decode cX5_longHash 44 = .ok (.iload_n 3, 1) := by decide +kernel
theorem dX5_longHash_45 : decode cX5_longHash 45 = .ok (.invokevirtual 155, 3) := by decide +kernel
theorem dX5_longHash_48 : decode cX5_longHash 48 = .ok (.aload_n 0, 1) := by decide +kernel
theorem dX5_longHash_49 : decode cX5_longHash 49 = .ok (.iload_n 1, 1) := by decide +kernel
theorem dX5_longHash_50 : decode cX5_longHash 50 = .ok (.iload_n 3, 1) := by decide +kernel
theorem dX5_longHash_51 : decode cX5_longHash 51 = .ok (.invokevirtual 152, 3) := by decide +kernel
theorem dX5_longHash_54 : decode cX5_longHash 54 = .ok (.iload_n 3, 1) := by decide +kernel
theorem dX5_longHash_55 : decode cX5_longHash 55 = .ok (.ireturn, 1) := by decide +kernel
theorem dX5_putOwn_0 : decode cX5_putOwn 0 = .ok (.aload_n 0, 1) := by decide +kernel
theorem dX5_putOwn_1 : decode cX5_putOwn 1 = .ok (.iconst 4, 1) := by decide +kernel
theorem dX5_putOwn_2 : decode cX5_putOwn 2 = .ok (.iload_n 1, 1) := by decide +kernel
theorem dX5_putOwn_3 : decode cX5_putOwn 3 = .ok (.iconst (-1), 1) := by decide +kernel
theorem dX5_putOwn_4 : decode cX5_putOwn 4 = .ok (.if_icmp .ne 7, 3) := by decide +kernel
theorem dX5_putOwn_7 : decode cX5_putOwn 7 = .ok (.lconst 0, 1) := by decide +kernel
theorem dX5_putOwn_8 : decode cX5_putOwn 8 = .ok (.goto 10, 3) := by decide +kernel
theorem dX5_putOwn_11 : decode cX5_putOwn 11 = .ok (.aload_n 0, 1) := by decide +kernel
theorem dX5_putOwn_12 : decode cX5_putOwn 12 = .ok (.getfield 7, 3) := by decide +kernel
theorem dX5_putOwn_15 : decode cX5_putOwn 15 = .ok (.iload_n 1, 1) := by decide +kernel
theorem dX5_putOwn_16 : decode cX5_putOwn 16 = .ok (.iaload, 1) := by decide +kernel
theorem dX5_putOwn_17 : decode cX5_putOwn 17 = .ok (.i2l, 1) := by decide +kernel
theorem dX5_putOwn_18 : decode cX5_putOwn 18 = .ok (.invokevirtual 144, 3) := by decide +kernel
theorem dX5_putOwn_21 : decode cX5_putOwn 21 = .ok (.iload_n 1, 1) := by decide +kernel
theorem dX5_putOwn_22 : decode cX5_putOwn 22 = .ok (.iconst (-1), 1) := by decide +kernel
theorem dX5_putOwn_23 : decode cX5_putOwn 23 = .ok (.if_icmp .eq 8, 3) := by decide +kernel
theorem dX5_putOwn_26 : decode cX5_putOwn 26 = .ok (.aload_n 0, 1) := by decide +kernel
theorem dX5_putOwn_27 : decode cX5_putOwn 27 = .ok (.iload_n 1, 1) := by decide +kernel
theorem dX5_putOwn_28 : decode cX5_putOwn 28 = .ok (.invokevirtual 148, 3) := by decide +kernel
theorem dX5_putOwn_31 : decode cX5_putOwn 31 = .ok (.return_, 1) := by decide +kernel
theorem dX5_isPerhaps_0 : decode cX5_isPerhaps 0 = .ok (.iload_n 0, 1) := by decide +kernel
theorem dX5_isPerhaps_1 : decode cX5_isPerhaps 1 = .ok (.iconst (-1), 1) := by decide +kernel
theorem dX5_isPerhaps_2 : decode cX5_isPerhaps 2 = .ok (.if_icmp .eq 10, 3) := by decide +kernel
theorem dX5_isPerhaps_5 : decode cX5_isPerhaps 5 = .ok (.iload_n 0, 1) := by decide +kernel
theorem dX5_isPerhaps_6 : decode cX5_isPerhaps 6 = .ok (.invokestatic 58, 3) := by decide +kernel
theorem dX5_isPerhaps_9 : decode cX5_isPerhaps 9 = .ok (.ifCond .eq 7, 3) := by decide +kernel
theorem dX5_isPerhaps_12 : decode cX5_isPerhaps 12 = .ok (.iconst 1, 1) := by decide +kernel
theorem dX5_isPerhaps_13 : decode cX5_isPerhaps 13 = .ok (.goto 4, 3) := by decide +kernel
theorem dX5_isPerhaps_16 : decode cX5_isPerhaps 16 = .ok (.iconst 0, 1) := by decide +kernel
theorem dX5_isPerhaps_17 : decode cX5_isPerhaps 17 = .ok (.ireturn, 1) := by decide +kernel
