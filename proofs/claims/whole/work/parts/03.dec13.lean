theorem dX5_told_0 : decode cX5_told 0 = .ok (.aload_n 0, 1) := by decide +kernel
theorem dX5_told_1 : decode cX5_told 1 = .ok (.iconst 0, 1) := by decide +kernel
theorem dX5_told_2 : decode cX5_told 2 = .ok (.putfield 50, 3) := by decide +kernel
theorem dX5_told_5 : decode cX5_told 5 = .ok (.iload_n 1, 1) := by decide +kernel
theorem dX5_told_6 : decode cX5_told 6 = .ok (.iconst 0, 1) := by decide +kernel
theorem dX5_told_7 : decode cX5_told 7 = .ok (.bipush 6, 2) := by decide +kernel
theorem dX5_told_9 : decode cX5_told 9 = .ok (.invokestatic 54, 3) := by decide +kernel
theorem dX5_told_12 : decode cX5_told 12 = .ok (.ifCond .ne 6, 3) := by decide +kernel
theorem dX5_told_15 : decode cX5_told 15 = .ok (.bipush (-2), 2) := by decide +kernel
theorem dX5_told_17 : decode cX5_told 17 = .ok (.ireturn, 1) := by decide +kernel
theorem dX5_told_18 : decode cX5_told 18 = .ok (.aload_n 0, 1) := by decide +kernel
theorem dX5_told_19 : decode cX5_told 19 = .ok (.getfield 161, 3) := by decide +kernel
theorem dX5_told_22 : decode cX5_told 22 = .ok (.ifCond .ne 7, 3) := by decide +kernel
theorem dX5_told_25 : decode cX5_told 25 = .ok (.iconst 0, 1) := by decide +kernel
theorem dX5_told_26 : decode cX5_told 26 = .ok (.goto 92, 3) := by decide +kernel
theorem dX5_told_29 : decode cX5_told 29 = .ok (.iload_n 1, 1) := by decide +kernel
theorem dX5_told_30 : decode cX5_told 30 = .ok (.ifCond .ne 10, 3) := by decide +kernel
theorem dX5_told_33 : decode cX5_told 33 = .ok (.aload_n 0, 1) := by decide +kernel
theorem dX5_told_34 : decode cX5_told 34 = .ok (.getfield 165, 3) := by decide +kernel
theorem dX5_told_37 : decode cX5_told 37 = .ok (.goto 81, 3) := by decide +kernel
theorem dX5_told_40 : decode cX5_told 40 = .ok (.iload_n 1, 1) := by decide +kernel
theorem dX5_told_41 : decode cX5_told 41 = .ok (.iconst 1, 1) := by decide +kernel
theorem dX5_told_42 : decode cX5_told 42 = .ok (.if_icmp .ne 10, 3) := by decide +kernel
theorem dX5_told_45 : decode cX5_told 45 = .ok (.aload_n 0, 1) := by decide +kernel
theorem dX5_told_46 : decode cX5_told 46 = .ok (.getfield 168, 3) := by decide +kernel
theorem dX5_told_49 : decode cX5_told 49 = .ok (.goto 69, 3) := by decide +kernel
theorem dX5_told_52 : decode cX5_told 52 = .ok (.iload_n 1, 1) := by decide +kernel
theorem dX5_told_53 : decode cX5_told 53 = .ok (.iconst 2, 1) := by decide +kernel
theorem dX5_told_54 : decode cX5_told 54 = .ok (.if_icmp .ne 10, 3) := by decide +kernel
theorem dX5_told_57 : decode cX5_told 57 = .ok (.aload_n 0, 1) := by decide +kernel
theorem dX5_told_58 : decode cX5_told 58 = .ok (.getfield 171, 3) := by decide +kernel
theorem dX5_told_61 : decode cX5_told 61 = .ok (.goto 57, 3) := by decide +kernel
theorem dX5_told_64 : decode cX5_told 64 = .ok (.iload_n 1, 1) := by decide +kernel
theorem dX5_told_65 : decode cX5_told 65 = .ok (.iconst 3, 1) := by decide +kernel
theorem dX5_told_66 : decode cX5_told 66 = .ok (.if_icmp .ne 17, 3) := by decide +kernel
theorem dX5_told_69 : decode cX5_told 69 = .ok (.iconst 4, 1) := by decide +kernel
theorem dX5_told_70 : decode cX5_told 70 = .ok (.aload_n 0, 1) := by decide +kernel
theorem dX5_told_71 : decode cX5_told 71 = .ok (.getfield 177, 3) := by decide +kernel
theorem dX5_told_74 : decode cX5_told 74 = .ok (.imul, 1) := by decide +kernel
theorem dX5_told_75 : decode cX5_told 75 = .ok (.aload_n 0, 1) := by decide +kernel
theorem dX5_told_76 : decode cX5_told 76 = .ok (.getfield 168, 3) := by decide +kernel
theorem dX5_told_79 : decode cX5_told 79 = .ok (.imul, 1) := by decide +kernel
theorem dX5_told_80 : decode cX5_told 80 = .ok (.goto 38, 3) := by decide +kernel
theorem dX5_told_83 : decode cX5_told 83 = .ok (.iload_n 1, 1) := by decide +kernel
theorem dX5_told_84 : decode cX5_told 84 = .ok (.iconst 4, 1) := by decide +kernel
theorem dX5_told_85 : decode cX5_told 85 = .ok (.if_icmp .ne 10, 3) := by decide +kernel
theorem dX5_told_88 : decode cX5_told 88 = .ok (.aload_n 0, 1) := by decide +kernel
theorem dX5_told_89 : decode cX5_told 89 = .ok (.getfield 180, 3) := by decide +kernel
theorem dX5_told_92 : decode cX5_told 92 = .ok (.goto 26, 3) := by decide +kernel
theorem dX5_told_95 : decode cX5_told 95 = .ok (.iload_n 1, 1) := by decide +kernel
theorem dX5_told_96 : decode cX5_told 96 = .ok (.iconst 5, 1) := by decide +kernel
theorem dX5_told_97 : decode cX5_told 97 = .ok (.if_icmp .ne 17, 3) := by decide +kernel
theorem dX5_told_100 : decode cX5_told 100 = .ok (.iconst 4, 1) := by decide +kernel
theorem dX5_told_101 : decode cX5_told 101 = .ok (.aload_n 0, 1) := by decide +kernel
theorem dX5_told_102 : decode cX5_told 102 = .ok (.getfield 168, 3) := by decide +kernel
theorem dX5_told_105 : decode cX5_told 105 = .ok (.imul, 1) := by decide +kernel
theorem dX5_told_106 : decode cX5_told 106 = .ok (.aload_n 0, 1) := by decide +kernel
theorem dX5_told_107 : decode cX5_told 107 = .ok (.getfield 171, 3) := by decide +kernel
theorem dX5_told_110 : decode cX5_told 110 = .ok (.imul, 1) := by decide +kernel
theorem dX5_told_111 : decode cX5_told 111 = .ok (.goto 7, 3) := by decide +kernel
theorem dX5_told_114 : decode cX5_told 114 = .ok (.aload_n 0, 1) := by decide +kernel
theorem dX5_told_115 : decode cX5_told 115 = .ok (.getfield 174, 3) := by decide +kernel
theorem dX5_told_118 : decode cX5_told 118 = .ok (.ireturn, 1) := by decide +kernel
theorem dX5_seal_0 : decode cX5_seal 0 = .ok (.aload_n 0, 1) := by decide +kernel
theorem dX5_seal_1 : decode cX5_seal 1 = .ok (.iconst 0, 1) := by decide +kernel
theorem dX5_seal_2 : decode cX5_seal 2 = .ok (.putfield 50, 3) := by decide +kernel
theorem dX5_seal_5 : decode cX5_seal 5 = .ok (.iload_n 1, 1) := by decide +kernel
theorem dX5_seal_6 : decode cX5_seal 6 = .ok (.invokestatic 58, 3) := by decide +kernel
theorem dX5_seal_9 : decode cX5_seal 9 = .ok (.ifCond .ne 6, 3) := by decide +kernel
theorem dX5_seal_12 : decode cX5_seal 12 = .ok (.bipush (-2), 2) := by decide +kernel
theorem dX5_seal_14 : decode cX5_seal 14 = .ok (.ireturn, 1) := by decide +kernel
theorem dX5_seal_15 : decode cX5_seal 15 = .ok (.aload_n 0, 1) := by decide +kernel
theorem dX5_seal_16 : decode cX5_seal 16 = .ok (.iload_n 2, 1) := by decide +kernel
theorem dX5_seal_17 : decode cX5_seal 17 = .ok (.iload_n 3, 1) := by decide +kernel
theorem dX5_seal_18 : decode cX5_seal 18 = .ok (.iload 4, 2) := by decide +kernel
theorem dX5_seal_20 : decode cX5_seal 20 = .ok (.iload 5, 2) := by decide +kernel
theorem dX5_seal_22 : decode cX5_seal 22 = .ok (.iload 6, 2) := by decide +kernel
theorem dX5_seal_24 : decode cX5_seal 24 = .ok (.iload 7, 2) := by decide +kernel
theorem dX5_seal_26 : decode cX5_seal 26 = .ok (.iload 8, 2) := by decide +kernel
theorem dX5_seal_28 : decode cX5_seal 28 = .ok (.iconst (-1), 1) := by decide +kernel
theorem dX5_seal_29 : decode cX5_seal 29 = .ok (.iconst (-1), 1) := by decide +kernel
theorem dX5_seal_30 : decode cX5_seal 30 = .ok (.invokevirtual 234, 3) := by decide +kernel
theorem dX5_seal_33 : decode cX5_seal 33 = .ok (.bipush (-2), 2) := by decide +kernel
theorem dX5_seal_35 : decode cX5_seal 35 = .ok (.if_icmp .ne 6, 3) := by decide +kernel
theorem dX5_seal_38 : decode cX5_seal 38 = .ok (.bipush (-2), 2) := by decide +kernel
theorem dX5_seal_40 : decode cX5_seal 40 = .ok (.ireturn, 1) := by decide +kernel
theorem dX5_seal_41 : decode cX5_seal 41 = .ok (.aload_n 0, 1) := by decide +kernel
theorem dX5_seal_42 : decode cX5_seal 42 = .ok (.sipush 1000, 3) := by decide +kernel
theorem dX5_seal_45 : decode cX5_seal 45 = .ok (.invokevirtual 228, 3) := by decide +kernel
theorem dX5_seal_48 : decode cX5_seal 48 = .ok (.pop, 1) := by decide +kernel
theorem dX5_seal_49 : decode cX5_seal 49 = .ok (.aload_n 0, 1) := by decide +kernel
theorem dX5_seal_50 : decode cX5_seal 50 = .ok (.invokevirtual 231, 3) := by decide +kernel
theorem dX5_seal_53 : decode cX5_seal 53 = .ok (.aload_n 0, 1) := by decide +kernel
theorem dX5_seal_54 : decode cX5_seal 54 = .ok (.iload_n 1, 1) := by decide +kernel
theorem dX5_seal_55 : decode cX5_seal 55 = .ok (.aload_n 0, 1) := by decide +kernel
theorem dX5_seal_56 : decode cX5_seal 56 = .ok (.getfield 174, 3) := by decide +kernel
theorem dX5_seal_59 : decode cX5_seal 59 = .ok (.invokevirtual 152, 3) := by decide +kernel
theorem dX5_seal_62 : decode cX5_seal 62 = .ok (.aload_n 0, 1) := by decide +kernel
theorem dX5_seal_63 : decode cX5_seal 63 = .ok (.getfield 174, 3) := by decide +kernel
theorem dX5_seal_66 : decode cX5_seal 66 = .ok (.ireturn, 1) := by decide +kernel
