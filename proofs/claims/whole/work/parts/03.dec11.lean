theorem dX5_stir_0 : decode cX5_stir 0 = .ok (.aload_n 0, 1) := by decide +kernel
theorem dX5_stir_1 : decode cX5_stir 1 = .ok (.iload_n 1, 1) := by decide +kernel
theorem dX5_stir_2 : decode cX5_stir 2 = .ok (.iload_n 2, 1) := by decide +kernel
theorem dX5_stir_3 : decode cX5_stir 3 = .ok (.iconst 0, 1) := by decide +kernel
theorem dX5_stir_4 : decode cX5_stir 4 = .ok (.iconst 4, 1) := by decide +kernel
theorem dX5_stir_5 : decode cX5_stir 5 = .ok (.bipush 8, 2) := by decide +kernel
theorem dX5_stir_7 : decode cX5_stir 7 = .ok (.bipush 12, 2) := by decide +kernel
theorem dX5_stir_9 : decode cX5_stir 9 = .ok (.invokevirtual 204, 3) := by decide +kernel
theorem dX5_stir_12 : decode cX5_stir 12 = .ok (.aload_n 0, 1) := by decide +kernel
theorem dX5_stir_13 : decode cX5_stir 13 = .ok (.iload_n 1, 1) := by decide +kernel
theorem dX5_stir_14 : decode cX5_stir 14 = .ok (.iload_n 2, 1) := by decide +kernel
theorem dX5_stir_15 : decode cX5_stir 15 = .ok (.iconst 1, 1) := by decide +kernel
theorem dX5_stir_16 : decode cX5_stir 16 = .ok (.iconst 5, 1) := by decide +kernel
theorem dX5_stir_17 : decode cX5_stir 17 = .ok (.bipush 9, 2) := by decide +kernel
theorem dX5_stir_19 : decode cX5_stir 19 = .ok (.bipush 13, 2) := by decide +kernel
theorem dX5_stir_21 : decode cX5_stir 21 = .ok (.invokevirtual 204, 3) := by decide +kernel
theorem dX5_stir_24 : decode cX5_stir 24 = .ok (.aload_n 0, 1) := by decide +kernel
theorem dX5_stir_25 : decode cX5_stir 25 = .ok (.iload_n 1, 1) := by decide +kernel
theorem dX5_stir_26 : decode cX5_stir 26 = .ok (.iload_n 2, 1) := by decide +kernel
theorem dX5_stir_27 : decode cX5_stir 27 = .ok (.iconst 2, 1) := by decide +kernel
theorem dX5_stir_28 : decode cX5_stir 28 = .ok (.bipush 6, 2) := by decide +kernel
theorem dX5_stir_30 : decode cX5_stir 30 = .ok (.bipush 10, 2) := by decide +kernel
theorem dX5_stir_32 : decode cX5_stir 32 = .ok (.bipush 14, 2) := by decide +kernel
theorem dX5_stir_34 : decode cX5_stir 34 = .ok (.invokevirtual 204, 3) := by decide +kernel
theorem dX5_stir_37 : decode cX5_stir 37 = .ok (.aload_n 0, 1) := by decide +kernel
theorem dX5_stir_38 : decode cX5_stir 38 = .ok (.iload_n 1, 1) := by decide +kernel
theorem dX5_stir_39 : decode cX5_stir 39 = .ok (.iload_n 2, 1) := by decide +kernel
theorem dX5_stir_40 : decode cX5_stir 40 = .ok (.iconst 3, 1) := by decide +kernel
theorem dX5_stir_41 : decode cX5_stir 41 = .ok (.bipush 7, 2) := by decide +kernel
theorem dX5_stir_43 : decode cX5_stir 43 = .ok (.bipush 11, 2) := by decide +kernel
theorem dX5_stir_45 : decode cX5_stir 45 = .ok (.bipush 15, 2) := by decide +kernel
theorem dX5_stir_47 : decode cX5_stir 47 = .ok (.invokevirtual 204, 3) := by decide +kernel
theorem dX5_stir_50 : decode cX5_stir 50 = .ok (.aload_n 0, 1) := by decide +kernel
theorem dX5_stir_51 : decode cX5_stir 51 = .ok (.iload_n 1, 1) := by decide +kernel
theorem dX5_stir_52 : decode cX5_stir 52 = .ok (.iload_n 2, 1) := by decide +kernel
theorem dX5_stir_53 : decode cX5_stir 53 = .ok (.iconst 0, 1) := by decide +kernel
theorem dX5_stir_54 : decode cX5_stir 54 = .ok (.iconst 5, 1) := by decide +kernel
theorem dX5_stir_55 : decode cX5_stir 55 = .ok (.bipush 10, 2) := by decide +kernel
theorem dX5_stir_57 : decode cX5_stir 57 = .ok (.bipush 15, 2) := by decide +kernel
theorem dX5_stir_59 : decode cX5_stir 59 = .ok (.invokevirtual 204, 3) := by decide +kernel
theorem dX5_stir_62 : decode cX5_stir 62 = .ok (.aload_n 0, 1) := by decide +kernel
theorem dX5_stir_63 : decode cX5_stir 63 = .ok (.iload_n 1, 1) := by decide +kernel
theorem dX5_stir_64 : decode cX5_stir 64 = .ok (.iload_n 2, 1) := by decide +kernel
theorem dX5_stir_65 : decode cX5_stir 65 = .ok (.iconst 1, 1) := by decide +kernel
theorem dX5_stir_66 : decode cX5_stir 66 = .ok (.bipush 6, 2) := by decide +kernel
theorem dX5_stir_68 : decode cX5_stir 68 = .ok (.bipush 11, 2) := by decide +kernel
theorem dX5_stir_70 : decode cX5_stir 70 = .ok (.bipush 12, 2) := by decide +kernel
theorem dX5_stir_72 : decode cX5_stir 72 = .ok (.invokevirtual 204, 3) := by decide +kernel
theorem dX5_stir_75 : decode cX5_stir 75 = .ok (.aload_n 0, 1) := by decide +kernel
theorem dX5_stir_76 : decode cX5_stir 76 = .ok (.iload_n 1, 1) := by decide +kernel
theorem dX5_stir_77 : decode cX5_stir 77 = .ok (.iload_n 2, 1) := by decide +kernel
theorem dX5_stir_78 : decode cX5_stir 78 = .ok (.iconst 2, 1) := by decide +kernel
theorem dX5_stir_79 : decode cX5_stir 79 = .ok (.bipush 7, 2) := by decide +kernel
theorem dX5_stir_81 : decode cX5_stir 81 = .ok (.bipush 8, 2) := by decide +kernel
theorem dX5_stir_83 : decode cX5_stir 83 = .ok (.bipush 13, 2) := by decide +kernel
theorem dX5_stir_85 : decode cX5_stir 85 = .ok (.invokevirtual 204, 3) := by decide +kernel
theorem dX5_stir_88 : decode cX5_stir 88 = .ok (.aload_n 0, 1) := by decide +kernel
theorem dX5_stir_89 : decode cX5_stir 89 = .ok (.iload_n 1, 1) := by decide +kernel
theorem dX5_stir_90 : decode cX5_stir 90 = .ok (.iload_n 2, 1) := by decide +kernel
theorem dX5_stir_91 : decode cX5_stir 91 = .ok (.iconst 3, 1) := by decide +kernel
theorem dX5_stir_92 : decode cX5_stir 92 = .ok (.iconst 4, 1) := by decide +kernel
theorem dX5_stir_93 : decode cX5_stir 93 = .ok (.bipush 9, 2) := by decide +kernel
theorem dX5_stir_95 : decode cX5_stir 95 = .ok (.bipush 14, 2) := by decide +kernel
theorem dX5_stir_97 : decode cX5_stir 97 = .ok (.invokevirtual 204, 3) := by decide +kernel
theorem dX5_stir_100 : decode cX5_stir 100 = .ok (.return_, 1) := by decide +kernel
theorem dX5_join_0 : decode cX5_join 0 = .ok (.iconst 0, 1) := by decide +kernel
theorem dX5_join_1 : decode cX5_join 1 = .ok (.istore_n 1, 1) := by decide +kernel
theorem dX5_join_2 : decode cX5_join 2 = .ok (.iload_n 1, 1) := by decide +kernel
theorem dX5_join_3 : decode cX5_join 3 = .ok (.sipush 128, 3) := by decide +kernel
theorem dX5_join_6 : decode cX5_join 6 = .ok (.if_icmp .ge 28, 3) := by decide +kernel
theorem dX5_join_9 : decode cX5_join 9 = .ok (.aload_n 0, 1) := by decide +kernel
theorem dX5_join_10 : decode cX5_join 10 = .ok (.getfield 44, 3) := by decide +kernel
theorem dX5_join_13 : decode cX5_join 13 = .ok (.iload_n 1, 1) := by decide +kernel
theorem dX5_join_14 : decode cX5_join 14 = .ok (.aload_n 0, 1) := by decide +kernel
theorem dX5_join_15 : decode cX5_join 15 = .ok (.getfield 38, 3) := by decide +kernel
theorem dX5_join_18 : decode cX5_join 18 = .ok (.iload_n 1, 1) := by decide +kernel
theorem dX5_join_19 : decode cX5_join 19 = .ok (.laload, 1) := by decide +kernel
theorem dX5_join_20 : decode cX5_join 20 = .ok (.aload_n 0, 1) := by decide +kernel
theorem dX5_join_21 : decode cX5_join 21 = .ok (.getfield 41, 3) := by decide +kernel
theorem dX5_join_24 : decode cX5_join 24 = .ok (.iload_n 1, 1) := by decide +kernel
theorem dX5_join_25 : decode cX5_join 25 = .ok (.laload, 1) := by decide +kernel
theorem dX5_join_26 : decode cX5_join 26 = .ok (.lxor, 1) := by decide +kernel
theorem dX5_join_27 : decode cX5_join 27 = .ok (.lastore, 1) := by decide +kernel
theorem dX5_join_28 : decode cX5_join 28 = .ok (.iinc 1 1, 3) := by decide +kernel
theorem dX5_join_31 : decode cX5_join 31 = .ok (.goto (-29), 3) := by decide +kernel
theorem dX5_join_34 : decode cX5_join 34 = .ok (.iconst 0, 1) := by decide +kernel
theorem dX5_join_35 : decode cX5_join 35 = .ok (.istore_n 1, 1) := by decide +kernel
theorem dX5_join_36 : decode cX5_join 36 = .ok (.iload_n 1, 1) := by decide +kernel
theorem dX5_join_37 : decode cX5_join 37 = .ok (.bipush 8, 2) := by decide +kernel
theorem dX5_join_39 : decode cX5_join 39 = .ok (.if_icmp .ge 18, 3) := by decide +kernel
theorem dX5_join_42 : decode cX5_join 42 = .ok (.aload_n 0, 1) := by decide +kernel
theorem dX5_join_43 : decode cX5_join 43 = .ok (.bipush 16, 2) := by decide +kernel
theorem dX5_join_45 : decode cX5_join 45 = .ok (.iload_n 1, 1) := by decide +kernel
theorem dX5_join_46 : decode cX5_join 46 = .ok (.imul, 1) := by decide +kernel
theorem dX5_join_47 : decode cX5_join 47 = .ok (.iconst 0, 1) := by decide +kernel
theorem dX5_join_48 : decode cX5_join 48 = .ok (.invokevirtual 208, 3) := by decide +kernel
theorem dX5_join_51 : decode cX5_join 51 = .ok (.iinc 1 1, 3) := by decide +kernel
theorem dX5_join_54 : decode cX5_join 54 = .ok (.goto (-18), 3) := by decide +kernel
theorem dX5_join_57 : decode cX5_join 57 = .ok (.iconst 0, 1) := by decide +kernel
theorem dX5_join_58 : decode cX5_join 58 = .ok (.istore_n 1, 1) := by decide +kernel
theorem dX5_join_59 : decode cX5_join 59 = .ok (.iload_n 1, 1) := by decide +kernel
theorem dX5_join_60 : decode cX5_join 60 = .ok (.bipush 8, 2) := by decide +kernel
theorem dX5_join_62 : decode cX5_join 62 = .ok (.if_icmp .ge 17, 3) := by decide +kernel
theorem dX5_join_65 : decode cX5_join 65 = .ok (.aload_n 0, 1) := by decide +kernel
theorem dX5_join_66 : decode cX5_join 66 = .ok (.iconst 2, 1) := by decide +kernel
theorem dX5_join_67 : decode cX5_join 67 = .ok (.iload_n 1, 1) := by decide +kernel
theorem dX5_join_68 : decode cX5_join 68 = .ok (.imul, 1) := by decide +kernel
theorem dX5_join_69 : decode cX5_join 69 = .ok (.iconst 1, 1) := by decide +kernel
theorem dX5_join_70 : decode cX5_join 70 = .ok (.invokevirtual 208, 3) := by decide +kernel
theorem dX5_join_73 : decode cX5_join 73 = .ok (.iinc 1 1, 3) := by decide +kernel
theorem dX5_join_76 : decode cX5_join 76 = .ok (.goto (-17), 3) := by decide +kernel
theorem dX5_join_79 : decode cX5_join 79 = .ok (.iconst 0, 1) := by decide +kernel
theorem dX5_join_80 : decode cX5_join 80 = .ok (.istore_n 1, 1) := by decide +kernel
theorem dX5_join_81 : decode cX5_join 81 = .ok (.iload_n 1, 1) := by decide +kernel
theorem dX5_join_82 : decode cX5_join 82 = .ok (.sipush 128, 3) := by decide +kernel
theorem dX5_join_85 : decode cX5_join 85 = .ok (.if_icmp .ge 31, 3) := by decide +kernel
theorem dX5_join_88 : decode cX5_join 88 = .ok (.aload_n 0, 1) := by decide +kernel
theorem dX5_join_89 : decode cX5_join 89 = .ok (.getfield 44, 3) := by decide +kernel
theorem dX5_join_92 : decode cX5_join 92 = .ok (.iload_n 1, 1) := by decide +kernel
theorem dX5_join_93 : decode cX5_join 93 = .ok (.dup2, 1) := by decide +kernel
theorem dX5_join_94 : decode cX5_join 94 = .ok (.laload, 1) := by decide +kernel
theorem dX5_join_95 : decode cX5_join 95 = .ok (.aload_n 0, 1) := by decide +kernel
theorem dX5_join_96 : decode cX5_join 96 = .ok (.getfield 38, 3) := by decide +kernel
theorem dX5_join_99 : decode cX5_join 99 = .ok (.iload_n 1, 1) := by decide +kernel
theorem dX5_join_100 : decode cX5_join 100 = .ok (.laload, 1) := by decide +kernel
theorem dX5_join_101 : decode cX5_join 101 = .ok (.aload_n 0, 1) := by decide +kernel
theorem dX5_join_102 : decode cX5_join 102 = .ok (.getfield 41, 3) := by decide +kernel
theorem dX5_join_105 : decode cX5_join 105 = .ok (.iload_n 1, 1) := by decide +kernel
theorem dX5_join_106 : decode cX5_join 106 = .ok (.laload, 1) := by decide +kernel
theorem dX5_join_107 : decode cX5_join 107 = .ok (.lxor, 1) := by decide +kernel
theorem dX5_join_108 : decode cX5_join 108 = .ok (.lxor, 1) := by decide +kernel
theorem dX5_join_109 : decode cX5_join 109 = .ok (.lastore, 1) := by decide +kernel
theorem dX5_join_110 : decode cX5_join 110 = .ok (.iinc 1 1, 3) := by decide +kernel
theorem dX5_join_113 : decode cX5_join 113 = .ok (.goto (-32), 3) := by decide +kernel
theorem dX5_join_116 : decode cX5_join 116 = .ok (.return_, 1) := by decide +kernel
theorem dX5_makeAddress_0 : decode cX5_makeAddress 0 = .ok (.iconst 0, 1) := by decide +kernel
theorem dX5_makeAddress_1 : decode cX5_makeAddress 1 = .ok (.istore 5, 2) := by decide +kernel
theorem dX5_makeAddress_3 : decode cX5_makeAddress 3 = .ok (.iload 5, 2) := by decide +kernel
theorem dX5_makeAddress_5 : decode cX5_makeAddress 5 = .ok (.sipush 128, 3) := by decide +kernel
theorem dX5_makeAddress_8 : decode cX5_makeAddress 8 = .ok (.if_icmp .ge 25, 3) := by decide +kernel
theorem dX5_makeAddress_11 : decode cX5_makeAddress 11 = .ok (.aload_n 0, 1) := by decide +kernel
theorem dX5_makeAddress_12 : decode cX5_makeAddress 12 = .ok (.getfield 38, 3) := by decide +kernel
theorem dX5_makeAddress_15 : decode cX5_makeAddress 15 = .ok (.iload 5, 2) := by decide +kernel
theorem dX5_makeAddress_17 : decode cX5_makeAddress 17 = .ok (.lconst 0, 1) := by decide +kernel
theorem dX5_makeAddress_18 : decode cX5_makeAddress 18 = .ok (.lastore, 1) := by decide +kernel
theorem dX5_makeAddress_19 : decode cX5_makeAddress 19 = .ok (.aload_n 0, 1) := by decide +kernel
theorem dX5_makeAddress_20 : decode cX5_makeAddress 20 = .ok (.getfield 41, 3) := by decide +kernel
theorem dX5_makeAddress_23 : decode cX5_makeAddress 23 = .ok (.iload 5, 2) := by decide +kernel
theorem dX5_makeAddress_25 : decode cX5_makeAddress 25 = .ok (.lconst 0, 1) := by decide +kernel
theorem dX5_makeAddress_26 : decode cX5_makeAddress 26 = .ok (.lastore, 1) := by decide +kernel
theorem dX5_makeAddress_27 : decode cX5_makeAddress 27 = .ok (.iinc 5 1, 3) := by decide +kernel
theorem dX5_makeAddress_30 : decode cX5_makeAddress 30 = .ok (.goto (-27), 3) := by decide +kernel
theorem dX5_makeAddress_33 : decode cX5_makeAddress 33 = .ok (.aload_n 0, 1) := by decide +kernel
theorem dX5_makeAddress_34 : decode cX5_makeAddress 34 = .ok (.getfield 41, 3) := by decide +kernel
theorem dX5_makeAddress_37 : decode cX5_makeAddress 37 = .ok (.iconst 0, 1) := by decide +kernel
theorem dX5_makeAddress_38 : decode cX5_makeAddress 38 = .ok (.iload_n 1, 1) := by decide +kernel
theorem dX5_makeAddress_39 : decode cX5_makeAddress 39 = .ok (.i2l, 1) := by decide +kernel
theorem dX5_makeAddress_40 : decode cX5_makeAddress 40 = .ok (.lastore, 1) := by decide +kernel
theorem dX5_makeAddress_41 : decode cX5_makeAddress 41 = .ok (.aload_n 0, 1) := by decide +kernel
theorem dX5_makeAddress_42 : decode cX5_makeAddress 42 = .ok (.getfield 41, 3) := by decide +kernel
theorem dX5_makeAddress_45 : decode cX5_makeAddress 45 = .ok (.iconst 1, 1) := by decide +kernel
theorem dX5_makeAddress_46 : decode cX5_makeAddress 46 = .ok (.iload_n 2, 1) := by decide +kernel
theorem dX5_makeAddress_47 : decode cX5_makeAddress 47 = .ok (.i2l, 1) := by decide +kernel
theorem dX5_makeAddress_48 : decode cX5_makeAddress 48 = .ok (.lastore, 1) := by decide +kernel
theorem dX5_makeAddress_49 : decode cX5_makeAddress 49 = .ok (.aload_n 0, 1) := by decide +kernel
theorem dX5_makeAddress_50 : decode cX5_makeAddress 50 = .ok (.getfield 41, 3) := by decide +kernel
theorem dX5_makeAddress_53 : decode cX5_makeAddress 53 = .ok (.iconst 2, 1) := by decide +kernel
theorem dX5_makeAddress_54 : decode cX5_makeAddress 54 = .ok (.iload_n 3, 1) := by decide +kernel
theorem dX5_makeAddress_55 : decode cX5_makeAddress 55 = .ok (.i2l, 1) := by decide +kernel
theorem dX5_makeAddress_56 : decode cX5_makeAddress 56 = .ok (.lastore, 1) := by decide +kernel
theorem dX5_makeAddress_57 : decode cX5_makeAddress 57 = .ok (.aload_n 0, 1) := by decide +kernel
theorem dX5_makeAddress_58 : decode cX5_makeAddress 58 = .ok (.getfield 41, 3) := by decide +kernel
theorem dX5_makeAddress_61 : decode cX5_makeAddress 61 = .ok (.iconst 3, 1) := by decide +kernel
theorem dX5_makeAddress_62 : decode cX5_makeAddress 62 = .ok (.ldc2_w 212, 3) := by decide +kernel
theorem dX5_makeAddress_65 : decode cX5_makeAddress 65 = .ok (.aload_n 0, 1) := by decide +kernel
theorem dX5_makeAddress_66 : decode cX5_makeAddress 66 = .ok (.getfield 177, 3) := by decide +kernel
theorem dX5_makeAddress_69 : decode cX5_makeAddress 69 = .ok (.i2l, 1) := by decide +kernel
theorem dX5_makeAddress_70 : decode cX5_makeAddress 70 = .ok (.lmul, 1) := by decide +kernel
theorem dX5_makeAddress_71 : decode cX5_makeAddress 71 = .ok (.aload_n 0, 1) := by decide +kernel
theorem dX5_makeAddress_72 : decode cX5_makeAddress 72 = .ok (.getfield 168, 3) := by decide +kernel
theorem dX5_makeAddress_75 : decode cX5_makeAddress 75 = .ok (.i2l, 1) := by decide +kernel
theorem dX5_makeAddress_76 : decode cX5_makeAddress 76 = .ok (.lmul, 1) := by decide +kernel
theorem dX5_makeAddress_77 : decode cX5_makeAddress 77 = .ok (.lastore, 1) := by decide +kernel
theorem dX5_makeAddress_78 : decode cX5_makeAddress 78 = .ok (.aload_n 0, 1) := by decide +kernel
theorem dX5_makeAddress_79 : decode cX5_makeAddress 79 = .ok (.getfield 41, 3) := by decide +kernel
theorem dX5_makeAddress_82 : decode cX5_makeAddress 82 = .ok (.iconst 4, 1) := by decide +kernel
theorem dX5_makeAddress_83 : decode cX5_makeAddress 83 = .ok (.aload_n 0, 1) := by decide +kernel
theorem dX5_makeAddress_84 : decode cX5_makeAddress 84 = .ok (.getfield 171, 3) := by decide +kernel
theorem dX5_makeAddress_87 : decode cX5_makeAddress 87 = .ok (.i2l, 1) := by decide +kernel
theorem dX5_makeAddress_88 : decode cX5_makeAddress 88 = .ok (.lastore, 1) := by decide +kernel
theorem dX5_makeAddress_89 : decode cX5_makeAddress 89 = .ok (.aload_n 0, 1) := by decide +kernel
theorem dX5_makeAddress_90 : decode cX5_makeAddress 90 = .ok (.getfield 41, 3) := by decide +kernel
theorem dX5_makeAddress_93 : decode cX5_makeAddress 93 = .ok (.iconst 5, 1) := by decide +kernel
theorem dX5_makeAddress_94 : decode cX5_makeAddress 94 = .ok (.aload_n 0, 1) := by decide +kernel
theorem dX5_makeAddress_95 : decode cX5_makeAddress 95 = .ok (.getfield 165, 3) := by decide +kernel
theorem dX5_makeAddress_98 : decode cX5_makeAddress 98 = .ok (.i2l, 1) := by decide +kernel
theorem dX5_makeAddress_99 : decode cX5_makeAddress 99 = .ok (.lastore, 1) := by decide +kernel
theorem dX5_makeAddress_100 : decode cX5_makeAddress 100 = .ok (.aload_n 0, 1) := by decide +kernel
theorem dX5_makeAddress_101 : decode cX5_makeAddress 101 = .ok (.getfield 41, 3) := by decide +kernel
theorem dX5_makeAddress_104 : decode cX5_makeAddress 104 = .ok (.bipush 6, 2) := by decide +kernel
theorem dX5_makeAddress_106 : decode cX5_makeAddress 106 = .ok (.iload 4, 2) := by decide +kernel
theorem dX5_makeAddress_108 : decode cX5_makeAddress 108 = .ok (.i2l, 1) := by decide +kernel
theorem dX5_makeAddress_109 : decode cX5_makeAddress 109 = .ok (.lastore, 1) := by decide +kernel
theorem dX5_makeAddress_110 : decode cX5_makeAddress 110 = .ok (.aload_n 0, 1) := by decide +kernel
theorem dX5_makeAddress_111 : decode cX5_makeAddress 111 = .ok (.invokevirtual 214, 3) := by decide +kernel
theorem dX5_makeAddress_114 : decode cX5_makeAddress 114 = .ok (.iconst 0, 1) := by decide +kernel
theorem dX5_makeAddress_115 : decode cX5_makeAddress 115 = .ok (.istore 5, 2) := by decide +kernel
theorem dX5_makeAddress_117 : decode cX5_makeAddress 117 = .ok (.iload 5, 2) := by decide +kernel
theorem dX5_makeAddress_119 : decode cX5_makeAddress 119 = .ok (.sipush 128, 3) := by decide +kernel
theorem dX5_makeAddress_122 : decode cX5_makeAddress 122 = .ok (.if_icmp .ge 23, 3) := by decide +kernel
theorem dX5_makeAddress_125 : decode cX5_makeAddress 125 = .ok (.aload_n 0, 1) := by decide +kernel
theorem dX5_makeAddress_126 : decode cX5_makeAddress 126 = .ok (.getfield 41, 3) := by decide +kernel
theorem dX5_makeAddress_129 : decode cX5_makeAddress 129 = .ok (.iload 5, 2) := by decide +kernel
theorem dX5_makeAddress_131 : decode cX5_makeAddress 131 = .ok (.aload_n 0, 1) := by decide +kernel
theorem dX5_makeAddress_132 : decode cX5_makeAddress 132 = .ok (.getfield 44, 3) := by decide +kernel
theorem dX5_makeAddress_135 : decode cX5_makeAddress 135 = .ok (.iload 5, 2) := by decide +kernel
theorem dX5_makeAddress_137 : decode cX5_makeAddress 137 = .ok (.laload, 1) := by decide +kernel
theorem dX5_makeAddress_138 : decode cX5_makeAddress 138 = .ok (.lastore, 1) := by decide +kernel
theorem dX5_makeAddress_139 : decode cX5_makeAddress 139 = .ok (.iinc 5 1, 3) := by decide +kernel
theorem dX5_makeAddress_142 : decode cX5_makeAddress 142 = .ok (.goto (-25), 3) := by decide +kernel
theorem dX5_makeAddress_145 : decode cX5_makeAddress 145 = .ok (.aload_n 0, 1) := by decide +kernel
theorem dX5_makeAddress_146 : decode cX5_makeAddress 146 = .ok (.invokevirtual 214, 3) := by decide +kernel
theorem dX5_makeAddress_149 : decode cX5_makeAddress 149 = .ok (.iconst 0, 1) := by decide +kernel
theorem dX5_makeAddress_150 : decode cX5_makeAddress 150 = .ok (.istore 5, 2) := by decide +kernel
theorem dX5_makeAddress_152 : decode cX5_makeAddress 152 = .ok (.iload 5, 2) := by decide +kernel
theorem dX5_makeAddress_154 : decode cX5_makeAddress 154 = .ok (.sipush 128, 3) := by decide +kernel
theorem dX5_makeAddress_157 : decode cX5_makeAddress 157 = .ok (.if_icmp .ge 23, 3) := by decide +kernel
theorem dX5_makeAddress_160 : decode cX5_makeAddress 160 = .ok (.aload_n 0, 1) := by decide +kernel
theorem dX5_makeAddress_161 : decode cX5_makeAddress 161 = .ok (.getfield 47, 3) := by decide +kernel
theorem dX5_makeAddress_164 : decode cX5_makeAddress 164 = .ok (.iload 5, 2) := by decide +kernel
theorem dX5_makeAddress_166 : decode cX5_makeAddress 166 = .ok (.aload_n 0, 1) := by decide +kernel
theorem dX5_makeAddress_167 : decode cX5_makeAddress 167 = .ok (.getfield 44, 3) := by decide +kernel
theorem dX5_makeAddress_170 : decode cX5_makeAddress 170 = .ok (.iload 5, 2) := by decide +kernel
theorem dX5_makeAddress_172 : decode cX5_makeAddress 172 = .ok (.laload, 1) := by decide +kernel
theorem dX5_makeAddress_173 : decode cX5_makeAddress 173 = .ok (.lastore, 1) := by decide +kernel
theorem dX5_makeAddress_174 : decode cX5_makeAddress 174 = .ok (.iinc 5 1, 3) := by decide +kernel
theorem dX5_makeAddress_177 : decode cX5_makeAddress 177 = .ok (.goto (-25), 3) := by decide +kernel
theorem dX5_makeAddress_180 : decode cX5_makeAddress 180 = .ok (.return_, 1) := by decide +kernel
theorem dX5_farBlock_0 : decode cX5_farBlock 0 = .ok (.iconst 4, 1) := by decide +kernel
theorem dX5_farBlock_1 : decode cX5_farBlock 1 = .ok (.aload_n 0, 1) := by decide +kernel
theorem dX5_farBlock_2 : decode cX5_farBlock 2 = .ok (.getfield 177, 3) := by decide +kernel
theorem dX5_farBlock_5 : decode cX5_farBlock 5 = .ok (.imul, 1) := by decide +kernel
theorem dX5_farBlock_6 : decode cX5_farBlock 6 = .ok (.istore 7, 2) := by decide +kernel
theorem dX5_farBlock_8 : decode cX5_farBlock 8 = .ok (.iload_n 1, 1) := by decide +kernel
theorem dX5_farBlock_9 : decode cX5_farBlock 9 = .ok (.ifCond .ne 11, 3) := by decide +kernel
theorem dX5_farBlock_12 : decode cX5_farBlock 12 = .ok (.iload_n 3, 1) := by decide +kernel
theorem dX5_farBlock_13 : decode cX5_farBlock 13 = .ok (.ifCond .ne 7, 3) := by decide +kernel
theorem dX5_farBlock_16 : decode cX5_farBlock 16 = .ok (.iload_n 2, 1) := by decide +kernel
theorem dX5_farBlock_17 : decode cX5_farBlock 17 = .ok (.goto 15, 3) := by decide +kernel
theorem dX5_farBlock_20 : decode cX5_farBlock 20 = .ok (.lload 5, 2) := by decide +kernel
theorem dX5_farBlock_22 : decode cX5_farBlock 22 = .ok (.bipush 32, 2) := by decide +kernel
theorem dX5_farBlock_24 : decode cX5_farBlock 24 = .ok (.lushr, 1) := by decide +kernel
theorem dX5_farBlock_25 : decode cX5_farBlock 25 = .ok (.aload_n 0, 1) := by decide +kernel
theorem dX5_farBlock_26 : decode cX5_farBlock 26 = .ok (.getfield 168, 3) := by decide +kernel
theorem dX5_farBlock_29 : decode cX5_farBlock 29 = .ok (.i2l, 1) := by decide +kernel
theorem dX5_farBlock_30 : decode cX5_farBlock 30 = .ok (.lrem, 1) := by decide +kernel
theorem dX5_farBlock_31 : decode cX5_farBlock 31 = .ok (.l2i, 1) := by decide +kernel
theorem dX5_farBlock_32 : decode cX5_farBlock 32 = .ok (.istore 8, 2) := by decide +kernel
theorem dX5_farBlock_34 : decode cX5_farBlock 34 = .ok (.iload_n 1, 1) := by decide +kernel
theorem dX5_farBlock_35 : decode cX5_farBlock 35 = .ok (.ifCond .ne 13, 3) := by decide +kernel
theorem dX5_farBlock_38 : decode cX5_farBlock 38 = .ok (.aload_n 0, 1) := by decide +kernel
theorem dX5_farBlock_39 : decode cX5_farBlock 39 = .ok (.getfield 177, 3) := by decide +kernel
theorem dX5_farBlock_42 : decode cX5_farBlock 42 = .ok (.iload_n 3, 1) := by decide +kernel
theorem dX5_farBlock_43 : decode cX5_farBlock 43 = .ok (.imul, 1) := by decide +kernel
theorem dX5_farBlock_44 : decode cX5_farBlock 44 = .ok (.i2l, 1) := by decide +kernel
theorem dX5_farBlock_45 : decode cX5_farBlock 45 = .ok (.goto 11, 3) := by decide +kernel
theorem dX5_farBlock_48 : decode cX5_farBlock 48 = .ok (.iload 7, 2) := by decide +kernel
theorem dX5_farBlock_50 : decode cX5_farBlock 50 = .ok (.aload_n 0, 1) := by decide +kernel
theorem dX5_farBlock_51 : decode cX5_farBlock 51 = .ok (.getfield 177, 3) := by decide +kernel
theorem dX5_farBlock_54 : decode cX5_farBlock 54 = .ok (.isub, 1) := by decide +kernel
theorem dX5_farBlock_55 : decode cX5_farBlock 55 = .ok (.i2l, 1) := by decide +kernel
theorem dX5_farBlock_56 : decode cX5_farBlock 56 = .ok (.lstore 9, 2) := by decide +kernel
theorem dX5_farBlock_58 : decode cX5_farBlock 58 = .ok (.iload 8, 2) := by decide +kernel
theorem dX5_farBlock_60 : decode cX5_farBlock 60 = .ok (.iload_n 2, 1) := by decide +kernel
theorem dX5_farBlock_61 : decode cX5_farBlock 61 = .ok (.if_icmp .ne 14, 3) := by decide +kernel
theorem dX5_farBlock_64 : decode cX5_farBlock 64 = .ok (.lload 9, 2) := by decide +kernel
theorem dX5_farBlock_66 : decode cX5_farBlock 66 = .ok (.iload 4, 2) := by decide +kernel
theorem dX5_farBlock_68 : decode cX5_farBlock 68 = .ok (.i2l, 1) := by decide +kernel
theorem dX5_farBlock_69 : decode cX5_farBlock 69 = .ok (.ladd, 1) := by decide +kernel
theorem dX5_farBlock_70 : decode cX5_farBlock 70 = .ok (.lconst 1, 1) := by decide +kernel
theorem dX5_farBlock_71 : decode cX5_farBlock 71 = .ok (.lsub, 1) := by decide +kernel
theorem dX5_farBlock_72 : decode cX5_farBlock 72 = .ok (.goto 16, 3) := by decide +kernel
theorem dX5_farBlock_75 : decode cX5_farBlock 75 = .ok (.lload 9, 2) := by decide +kernel
theorem dX5_farBlock_77 : decode cX5_farBlock 77 = .ok (.iload 4, 2) := by decide +kernel
theorem dX5_farBlock_79 : decode cX5_farBlock 79 = .ok (.ifCond .ne 7, 3) := by decide +kernel
theorem dX5_farBlock_82 : decode cX5_farBlock 82 = .ok (.lconst 1, 1) := by decide +kernel
theorem dX5_farBlock_83 : decode cX5_farBlock 83 = .ok (.goto 4, 3) := by decide +kernel
theorem dX5_farBlock_86 : decode cX5_farBlock 86 = .ok (.lconst 0, 1) := by decide +kernel
theorem dX5_farBlock_87 : decode cX5_farBlock 87 = .ok (.lsub, 1) := by decide +kernel
theorem dX5_farBlock_88 : decode cX5_farBlock 88 = .ok (.lstore 11, 2) := by decide +kernel
theorem dX5_farBlock_90 : decode cX5_farBlock 90 = .ok (.lload 5, 2) := by decide +kernel
theorem dX5_farBlock_92 : decode cX5_farBlock 92 = .ok (.invokestatic 192, 3) := by decide +kernel
theorem dX5_farBlock_95 : decode cX5_farBlock 95 = .ok (.lload 5, 2) := by decide +kernel
theorem dX5_farBlock_97 : decode cX5_farBlock 97 = .ok (.invokestatic 192, 3) := by decide +kernel
theorem dX5_farBlock_100 : decode cX5_farBlock 100 = .ok (.lmul, 1) := by decide +kernel
theorem dX5_farBlock_101 : decode cX5_farBlock 101 = .ok (.bipush 32, 2) := by decide +kernel
theorem dX5_farBlock_103 : decode cX5_farBlock 103 = .ok (.lushr, 1) := by decide +kernel
theorem dX5_farBlock_104 : decode cX5_farBlock 104 = .ok (.lstore 13, 2) := by decide +kernel
theorem dX5_farBlock_106 : decode cX5_farBlock 106 = .ok (.lload 11, 2) := by decide +kernel
theorem dX5_farBlock_108 : decode cX5_farBlock 108 = .ok (.lconst 1, 1) := by decide +kernel
theorem dX5_farBlock_109 : decode cX5_farBlock 109 = .ok (.lsub, 1) := by decide +kernel
theorem dX5_farBlock_110 : decode cX5_farBlock 110 = .ok (.lload 11, 2) := by decide +kernel
theorem dX5_farBlock_112 : decode cX5_farBlock 112 = .ok (.lload 13, 2) := by decide +kernel
theorem dX5_farBlock_114 : decode cX5_farBlock 114 = .ok (.lmul, 1) := by decide +kernel
theorem dX5_farBlock_115 : decode cX5_farBlock 115 = .ok (.bipush 32, 2) := by decide +kernel
theorem dX5_farBlock_117 : decode cX5_farBlock 117 = .ok (.lushr, 1) := by decide +kernel
theorem dX5_farBlock_118 : decode cX5_farBlock 118 = .ok (.lsub, 1) := by decide +kernel
theorem dX5_farBlock_119 : decode cX5_farBlock 119 = .ok (.lstore 15, 2) := by decide +kernel
theorem dX5_farBlock_121 : decode cX5_farBlock 121 = .ok (.iload_n 1, 1) := by decide +kernel
theorem dX5_farBlock_122 : decode cX5_farBlock 122 = .ok (.ifCond .eq 8, 3) := by decide +kernel
theorem dX5_farBlock_125 : decode cX5_farBlock 125 = .ok (.iload_n 3, 1) := by decide +kernel
theorem dX5_farBlock_126 : decode cX5_farBlock 126 = .ok (.iconst 3, 1) := by decide +kernel
theorem dX5_farBlock_127 : decode cX5_farBlock 127 = .ok (.if_icmp .ne 7, 3) := by decide +kernel
theorem dX5_farBlock_130 : decode cX5_farBlock 130 = .ok (.lconst 0, 1) := by decide +kernel
theorem dX5_farBlock_131 : decode cX5_farBlock 131 = .ok (.goto 12, 3) := by decide +kernel
theorem dX5_farBlock_134 : decode cX5_farBlock 134 = .ok (.aload_n 0, 1) := by decide +kernel
theorem dX5_farBlock_135 : decode cX5_farBlock 135 = .ok (.getfield 177, 3) := by decide +kernel
theorem dX5_farBlock_138 : decode cX5_farBlock 138 = .ok (.iload_n 3, 1) := by decide +kernel
theorem dX5_farBlock_139 : decode cX5_farBlock 139 = .ok (.iconst 1, 1) := by decide +kernel
theorem dX5_farBlock_140 : decode cX5_farBlock 140 = .ok (.iadd, 1) := by decide +kernel
theorem dX5_farBlock_141 : decode cX5_farBlock 141 = .ok (.imul, 1) := by decide +kernel
theorem dX5_farBlock_142 : decode cX5_farBlock 142 = .ok (.i2l, 1) := by decide +kernel
theorem dX5_farBlock_143 : decode cX5_farBlock 143 = .ok (.lstore 17, 2) := by decide +kernel
theorem dX5_farBlock_145 : decode cX5_farBlock 145 = .ok (.iload 7, 2) := by decide +kernel
theorem dX5_farBlock_147 : decode cX5_farBlock 147 = .ok (.iload 8, 2) := by decide +kernel
theorem dX5_farBlock_149 : decode cX5_farBlock 149 = .ok (.imul, 1) := by decide +kernel
theorem dX5_farBlock_150 : decode cX5_farBlock 150 = .ok (.lload 17, 2) := by decide +kernel
theorem dX5_farBlock_152 : decode cX5_farBlock 152 = .ok (.lload 15, 2) := by decide +kernel
theorem dX5_farBlock_154 : decode cX5_farBlock 154 = .ok (.ladd, 1) := by decide +kernel
theorem dX5_farBlock_155 : decode cX5_farBlock 155 = .ok (.iload 7, 2) := by decide +kernel
theorem dX5_farBlock_157 : decode cX5_farBlock 157 = .ok (.i2l, 1) := by decide +kernel
theorem dX5_farBlock_158 : decode cX5_farBlock 158 = .ok (.lrem, 1) := by decide +kernel
theorem dX5_farBlock_159 : decode cX5_farBlock 159 = .ok (.l2i, 1) := by decide +kernel
theorem dX5_farBlock_160 : decode cX5_farBlock 160 = .ok (.iadd, 1) := by decide +kernel
theorem dX5_farBlock_161 : decode cX5_farBlock 161 = .ok (.ireturn, 1) := by decide +kernel
