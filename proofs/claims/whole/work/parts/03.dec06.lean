theorem dX4_begin_0 : decode cX4_begin 0 = .ok (.iload_n 1, 1) := by decide +kernel
theorem dX4_begin_1 : decode cX4_begin 1 = .ok (.iload_n 2, 1) := by decide +kernel
theorem dX4_begin_2 : decode cX4_begin 2 = .ok (.iload_n 3, 1) := by decide +kernel
theorem dX4_begin_3 : decode cX4_begin 3 = .ok (.iload 4, 2) := by decide +kernel
theorem dX4_begin_5 : decode cX4_begin 5 = .ok (.iload 5, 2) := by decide +kernel
theorem dX4_begin_7 : decode cX4_begin 7 = .ok (.invokestatic 91, 3) := by decide +kernel
theorem dX4_begin_10 : decode cX4_begin 10 = .ok (.ifCond .ne 6, 3) := by decide +kernel
theorem dX4_begin_13 : decode cX4_begin 13 = .ok (.bipush (-2), 2) := by decide +kernel
theorem dX4_begin_15 : decode cX4_begin 15 = .ok (.ireturn, 1) := by decide +kernel
theorem dX4_begin_16 : decode cX4_begin 16 = .ok (.iload 6, 2) := by decide +kernel
theorem dX4_begin_18 : decode cX4_begin 18 = .ok (.invokestatic 39, 3) := by decide +kernel
theorem dX4_begin_21 : decode cX4_begin 21 = .ok (.ifCond .eq 19, 3) := by decide +kernel
theorem dX4_begin_24 : decode cX4_begin 24 = .ok (.iload 8, 2) := by decide +kernel
theorem dX4_begin_26 : decode cX4_begin 26 = .ok (.invokestatic 62, 3) := by decide +kernel
theorem dX4_begin_29 : decode cX4_begin 29 = .ok (.ifCond .eq 11, 3) := by decide +kernel
theorem dX4_begin_32 : decode cX4_begin 32 = .ok (.iload 9, 2) := by decide +kernel
theorem dX4_begin_34 : decode cX4_begin 34 = .ok (.invokestatic 62, 3) := by decide +kernel
theorem dX4_begin_37 : decode cX4_begin 37 = .ok (.ifCond .ne 6, 3) := by decide +kernel
theorem dX4_begin_40 : decode cX4_begin 40 = .ok (.bipush (-2), 2) := by decide +kernel
theorem dX4_begin_42 : decode cX4_begin 42 = .ok (.ireturn, 1) := by decide +kernel
theorem dX4_begin_43 : decode cX4_begin 43 = .ok (.iload 7, 2) := by decide +kernel
theorem dX4_begin_45 : decode cX4_begin 45 = .ok (.invokestatic 39, 3) := by decide +kernel
theorem dX4_begin_48 : decode cX4_begin 48 = .ok (.ifCond .eq 17, 3) := by decide +kernel
theorem dX4_begin_51 : decode cX4_begin 51 = .ok (.aload_n 0, 1) := by decide +kernel
theorem dX4_begin_52 : decode cX4_begin 52 = .ok (.iload 7, 2) := by decide +kernel
theorem dX4_begin_54 : decode cX4_begin 54 = .ok (.invokevirtual 43, 3) := by decide +kernel
theorem dX4_begin_57 : decode cX4_begin 57 = .ok (.getfield 47, 3) := by decide +kernel
theorem dX4_begin_60 : decode cX4_begin 60 = .ok (.bipush 8, 2) := by decide +kernel
theorem dX4_begin_62 : decode cX4_begin 62 = .ok (.if_icmp .ge 6, 3) := by decide +kernel
theorem dX4_begin_65 : decode cX4_begin 65 = .ok (.bipush (-2), 2) := by decide +kernel
theorem dX4_begin_67 : decode cX4_begin 67 = .ok (.ireturn, 1) := by decide +kernel
theorem dX4_begin_68 : decode cX4_begin 68 = .ok (.aload_n 0, 1) := by decide +kernel
theorem dX4_begin_69 : decode cX4_begin 69 = .ok (.getfield 35, 3) := by decide +kernel
theorem dX4_begin_72 : decode cX4_begin 72 = .ok (.iload_n 1, 1) := by decide +kernel
theorem dX4_begin_73 : decode cX4_begin 73 = .ok (.iload_n 2, 1) := by decide +kernel
theorem dX4_begin_74 : decode cX4_begin 74 = .ok (.iload_n 3, 1) := by decide +kernel
theorem dX4_begin_75 : decode cX4_begin 75 = .ok (.iload 4, 2) := by decide +kernel
theorem dX4_begin_77 : decode cX4_begin 77 = .ok (.iload 5, 2) := by decide +kernel
theorem dX4_begin_79 : decode cX4_begin 79 = .ok (.invokevirtual 95, 3) := by decide +kernel
theorem dX4_begin_82 : decode cX4_begin 82 = .ok (.aload_n 0, 1) := by decide +kernel
theorem dX4_begin_83 : decode cX4_begin 83 = .ok (.getfield 28, 3) := by decide +kernel
theorem dX4_begin_86 : decode cX4_begin 86 = .ok (.getfield 69, 3) := by decide +kernel
theorem dX4_begin_89 : decode cX4_begin 89 = .ok (.invokevirtual 55, 3) := by decide +kernel
theorem dX4_begin_92 : decode cX4_begin 92 = .ok (.aload_n 0, 1) := by decide +kernel
theorem dX4_begin_93 : decode cX4_begin 93 = .ok (.getfield 35, 3) := by decide +kernel
theorem dX4_begin_96 : decode cX4_begin 96 = .ok (.aload_n 0, 1) := by decide +kernel
theorem dX4_begin_97 : decode cX4_begin 97 = .ok (.getfield 28, 3) := by decide +kernel
theorem dX4_begin_100 : decode cX4_begin 100 = .ok (.getfield 69, 3) := by decide +kernel
theorem dX4_begin_103 : decode cX4_begin 103 = .ok (.iload 4, 2) := by decide +kernel
theorem dX4_begin_105 : decode cX4_begin 105 = .ok (.invokevirtual 99, 3) := by decide +kernel
theorem dX4_begin_108 : decode cX4_begin 108 = .ok (.aload_n 0, 1) := by decide +kernel
theorem dX4_begin_109 : decode cX4_begin 109 = .ok (.iload 6, 2) := by decide +kernel
theorem dX4_begin_111 : decode cX4_begin 111 = .ok (.invokevirtual 103, 3) := by decide +kernel
theorem dX4_begin_114 : decode cX4_begin 114 = .ok (.aload_n 0, 1) := by decide +kernel
theorem dX4_begin_115 : decode cX4_begin 115 = .ok (.iload 7, 2) := by decide +kernel
theorem dX4_begin_117 : decode cX4_begin 117 = .ok (.invokevirtual 103, 3) := by decide +kernel
theorem dX4_begin_120 : decode cX4_begin 120 = .ok (.aload_n 0, 1) := by decide +kernel
theorem dX4_begin_121 : decode cX4_begin 121 = .ok (.iload 8, 2) := by decide +kernel
theorem dX4_begin_123 : decode cX4_begin 123 = .ok (.invokevirtual 103, 3) := by decide +kernel
theorem dX4_begin_126 : decode cX4_begin 126 = .ok (.aload_n 0, 1) := by decide +kernel
theorem dX4_begin_127 : decode cX4_begin 127 = .ok (.iload 9, 2) := by decide +kernel
theorem dX4_begin_129 : decode cX4_begin 129 = .ok (.invokevirtual 103, 3) := by decide +kernel
theorem dX4_begin_132 : decode cX4_begin 132 = .ok (.aload_n 0, 1) := by decide +kernel
theorem dX4_begin_133 : decode cX4_begin 133 = .ok (.getfield 28, 3) := by decide +kernel
theorem dX4_begin_136 : decode cX4_begin 136 = .ok (.bipush 64, 2) := by decide +kernel
theorem dX4_begin_138 : decode cX4_begin 138 = .ok (.iconst 0, 1) := by decide +kernel
theorem dX4_begin_139 : decode cX4_begin 139 = .ok (.invokevirtual 75, 3) := by decide +kernel
theorem dX4_begin_142 : decode cX4_begin 142 = .ok (.aload_n 0, 1) := by decide +kernel
theorem dX4_begin_143 : decode cX4_begin 143 = .ok (.getfield 22, 3) := by decide +kernel
theorem dX4_begin_146 : decode cX4_begin 146 = .ok (.aload_n 0, 1) := by decide +kernel
theorem dX4_begin_147 : decode cX4_begin 147 = .ok (.getfield 28, 3) := by decide +kernel
theorem dX4_begin_150 : decode cX4_begin 150 = .ok (.getfield 79, 3) := by decide +kernel
theorem dX4_begin_153 : decode cX4_begin 153 = .ok (.invokevirtual 82, 3) := by decide +kernel
theorem dX4_begin_156 : decode cX4_begin 156 = .ok (.aload_n 0, 1) := by decide +kernel
theorem dX4_begin_157 : decode cX4_begin 157 = .ok (.invokevirtual 106, 3) := by decide +kernel
theorem dX4_begin_160 : decode cX4_begin 160 = .ok (.aload_n 0, 1) := by decide +kernel
theorem dX4_begin_161 : decode cX4_begin 161 = .ok (.getfield 35, 3) := by decide +kernel
theorem dX4_begin_164 : decode cX4_begin 164 = .ok (.invokevirtual 109, 3) := by decide +kernel
theorem dX4_begin_167 : decode cX4_begin 167 = .ok (.ireturn, 1) := by decide +kernel
theorem dX4_fill_0 : decode cX4_fill 0 = .ok (.iload_n 1, 1) := by decide +kernel
theorem dX4_fill_1 : decode cX4_fill 1 = .ok (.iconst 1, 1) := by decide +kernel
theorem dX4_fill_2 : decode cX4_fill 2 = .ok (.if_icmp .lt 9, 3) := by decide +kernel
theorem dX4_fill_5 : decode cX4_fill 5 = .ok (.iload_n 1, 1) := by decide +kernel
theorem dX4_fill_6 : decode cX4_fill 6 = .ok (.bipush 100, 2) := by decide +kernel
theorem dX4_fill_8 : decode cX4_fill 8 = .ok (.if_icmp .le 6, 3) := by decide +kernel
theorem dX4_fill_11 : decode cX4_fill 11 = .ok (.bipush (-2), 2) := by decide +kernel
theorem dX4_fill_13 : decode cX4_fill 13 = .ok (.ireturn, 1) := by decide +kernel
theorem dX4_fill_14 : decode cX4_fill 14 = .ok (.aload_n 0, 1) := by decide +kernel
theorem dX4_fill_15 : decode cX4_fill 15 = .ok (.getfield 35, 3) := by decide +kernel
theorem dX4_fill_18 : decode cX4_fill 18 = .ok (.invokevirtual 113, 3) := by decide +kernel
theorem dX4_fill_21 : decode cX4_fill 21 = .ok (.ifCond .ne 6, 3) := by decide +kernel
theorem dX4_fill_24 : decode cX4_fill 24 = .ok (.bipush (-3), 2) := by decide +kernel
theorem dX4_fill_26 : decode cX4_fill 26 = .ok (.ireturn, 1) := by decide +kernel
theorem dX4_fill_27 : decode cX4_fill 27 = .ok (.iload_n 1, 1) := by decide +kernel
theorem dX4_fill_28 : decode cX4_fill 28 = .ok (.aload_n 0, 1) := by decide +kernel
theorem dX4_fill_29 : decode cX4_fill 29 = .ok (.getfield 35, 3) := by decide +kernel
theorem dX4_fill_32 : decode cX4_fill 32 = .ok (.invokevirtual 117, 3) := by decide +kernel
theorem dX4_fill_35 : decode cX4_fill 35 = .ok (.aload_n 0, 1) := by decide +kernel
theorem dX4_fill_36 : decode cX4_fill 36 = .ok (.getfield 35, 3) := by decide +kernel
theorem dX4_fill_39 : decode cX4_fill 39 = .ok (.getfield 120, 3) := by decide +kernel
theorem dX4_fill_42 : decode cX4_fill 42 = .ok (.isub, 1) := by decide +kernel
theorem dX4_fill_43 : decode cX4_fill 43 = .ok (.invokestatic 123, 3) := by decide +kernel
theorem dX4_fill_46 : decode cX4_fill 46 = .ok (.istore_n 2, 1) := by decide +kernel
theorem dX4_fill_47 : decode cX4_fill 47 = .ok (.iconst 0, 1) := by decide +kernel
theorem dX4_fill_48 : decode cX4_fill 48 = .ok (.istore_n 3, 1) := by decide +kernel
theorem dX4_fill_49 : decode cX4_fill 49 = .ok (.iload_n 3, 1) := by decide +kernel
theorem dX4_fill_50 : decode cX4_fill 50 = .ok (.iload_n 2, 1) := by decide +kernel
theorem dX4_fill_51 : decode cX4_fill 51 = .ok (.if_icmp .ge 16, 3) := by decide +kernel
theorem dX4_fill_54 : decode cX4_fill 54 = .ok (.aload_n 0, 1) := by decide +kernel
theorem dX4_fill_55 : decode cX4_fill 55 = .ok (.getfield 35, 3) := by decide +kernel
theorem dX4_fill_58 : decode cX4_fill 58 = .ok (.invokevirtual 129, 3) := by decide +kernel
theorem dX4_fill_61 : decode cX4_fill 61 = .ok (.iinc 3 1, 3) := by decide +kernel
theorem dX4_fill_64 : decode cX4_fill 64 = .ok (.goto (-15), 3) := by decide +kernel
theorem dX4_fill_67 : decode cX4_fill 67 = .ok (.iload_n 2, 1) := by decide +kernel
theorem dX4_fill_68 : decode cX4_fill 68 = .ok (.ireturn, 1) := by decide +kernel
theorem dX4_word_0 : decode cX4_word 0 = .ok (.aload_n 0, 1) := by decide +kernel
theorem dX4_word_1 : decode cX4_word 1 = .ok (.getfield 35, 3) := by decide +kernel
theorem dX4_word_4 : decode cX4_word 4 = .ok (.iload_n 1, 1) := by decide +kernel
theorem dX4_word_5 : decode cX4_word 5 = .ok (.iload_n 2, 1) := by decide +kernel
theorem dX4_word_6 : decode cX4_word 6 = .ok (.invokevirtual 132, 3) := by decide +kernel
theorem dX4_word_9 : decode cX4_word 9 = .ok (.lreturn, 1) := by decide +kernel
theorem dX4_tag_0 : decode cX4_tag 0 = .ok (.iload_n 1, 1) := by decide +kernel
theorem dX4_tag_1 : decode cX4_tag 1 = .ok (.invokestatic 39, 3) := by decide +kernel
theorem dX4_tag_4 : decode cX4_tag 4 = .ok (.ifCond .ne 6, 3) := by decide +kernel
theorem dX4_tag_7 : decode cX4_tag 7 = .ok (.bipush (-2), 2) := by decide +kernel
theorem dX4_tag_9 : decode cX4_tag 9 = .ok (.ireturn, 1) := by decide +kernel
theorem dX4_tag_10 : decode cX4_tag 10 = .ok (.aload_n 0, 1) := by decide +kernel
theorem dX4_tag_11 : decode cX4_tag 11 = .ok (.getfield 35, 3) := by decide +kernel
theorem dX4_tag_14 : decode cX4_tag 14 = .ok (.invokevirtual 113, 3) := by decide +kernel
theorem dX4_tag_17 : decode cX4_tag 17 = .ok (.ifCond .eq 20, 3) := by decide +kernel
theorem dX4_tag_20 : decode cX4_tag 20 = .ok (.aload_n 0, 1) := by decide +kernel
theorem dX4_tag_21 : decode cX4_tag 21 = .ok (.getfield 35, 3) := by decide +kernel
theorem dX4_tag_24 : decode cX4_tag 24 = .ok (.getfield 120, 3) := by decide +kernel
theorem dX4_tag_27 : decode cX4_tag 27 = .ok (.aload_n 0, 1) := by decide +kernel
theorem dX4_tag_28 : decode cX4_tag 28 = .ok (.getfield 35, 3) := by decide +kernel
theorem dX4_tag_31 : decode cX4_tag 31 = .ok (.invokevirtual 117, 3) := by decide +kernel
theorem dX4_tag_34 : decode cX4_tag 34 = .ok (.if_icmp .ge 6, 3) := by decide +kernel
theorem dX4_tag_37 : decode cX4_tag 37 = .ok (.bipush (-3), 2) := by decide +kernel
theorem dX4_tag_39 : decode cX4_tag 39 = .ok (.ireturn, 1) := by decide +kernel
theorem dX4_tag_40 : decode cX4_tag 40 = .ok (.aload_n 0, 1) := by decide +kernel
theorem dX4_tag_41 : decode cX4_tag 41 = .ok (.getfield 28, 3) := by decide +kernel
theorem dX4_tag_44 : decode cX4_tag 44 = .ok (.aload_n 0, 1) := by decide +kernel
theorem dX4_tag_45 : decode cX4_tag 45 = .ok (.getfield 35, 3) := by decide +kernel
theorem dX4_tag_48 : decode cX4_tag 48 = .ok (.getfield 136, 3) := by decide +kernel
theorem dX4_tag_51 : decode cX4_tag 51 = .ok (.invokevirtual 85, 3) := by decide +kernel
theorem dX4_tag_54 : decode cX4_tag 54 = .ok (.aload_n 0, 1) := by decide +kernel
theorem dX4_tag_55 : decode cX4_tag 55 = .ok (.getfield 35, 3) := by decide +kernel
theorem dX4_tag_58 : decode cX4_tag 58 = .ok (.aload_n 0, 1) := by decide +kernel
theorem dX4_tag_59 : decode cX4_tag 59 = .ok (.getfield 28, 3) := by decide +kernel
theorem dX4_tag_62 : decode cX4_tag 62 = .ok (.getfield 69, 3) := by decide +kernel
theorem dX4_tag_65 : decode cX4_tag 65 = .ok (.invokevirtual 139, 3) := by decide +kernel
theorem dX4_tag_68 : decode cX4_tag 68 = .ok (.aload_n 0, 1) := by decide +kernel
theorem dX4_tag_69 : decode cX4_tag 69 = .ok (.getfield 28, 3) := by decide +kernel
theorem dX4_tag_72 : decode cX4_tag 72 = .ok (.aload_n 0, 1) := by decide +kernel
theorem dX4_tag_73 : decode cX4_tag 73 = .ok (.getfield 35, 3) := by decide +kernel
theorem dX4_tag_76 : decode cX4_tag 76 = .ok (.getfield 136, 3) := by decide +kernel
theorem dX4_tag_79 : decode cX4_tag 79 = .ok (.invokevirtual 88, 3) := by decide +kernel
theorem dX4_tag_82 : decode cX4_tag 82 = .ok (.aload_n 0, 1) := by decide +kernel
theorem dX4_tag_83 : decode cX4_tag 83 = .ok (.iload_n 1, 1) := by decide +kernel
theorem dX4_tag_84 : decode cX4_tag 84 = .ok (.invokevirtual 43, 3) := by decide +kernel
theorem dX4_tag_87 : decode cX4_tag 87 = .ok (.aload_n 0, 1) := by decide +kernel
theorem dX4_tag_88 : decode cX4_tag 88 = .ok (.getfield 28, 3) := by decide +kernel
theorem dX4_tag_91 : decode cX4_tag 91 = .ok (.getfield 79, 3) := by decide +kernel
theorem dX4_tag_94 : decode cX4_tag 94 = .ok (.invokevirtual 82, 3) := by decide +kernel
theorem dX4_tag_97 : decode cX4_tag 97 = .ok (.aload_n 0, 1) := by decide +kernel
theorem dX4_tag_98 : decode cX4_tag 98 = .ok (.getfield 35, 3) := by decide +kernel
theorem dX4_tag_101 : decode cX4_tag 101 = .ok (.getfield 136, 3) := by decide +kernel
theorem dX4_tag_104 : decode cX4_tag 104 = .ok (.ireturn, 1) := by decide +kernel
theorem dX4_told_0 : decode cX4_told 0 = .ok (.iload_n 1, 1) := by decide +kernel
theorem dX4_told_1 : decode cX4_told 1 = .ok (.tableswitch 99 0 6 #[43, 51, 59, 67, 75, 83, 91], 43) := by decide +kernel
theorem dX4_told_44 : decode cX4_told 44 = .ok (.aload_n 0, 1) := by decide +kernel
theorem dX4_told_45 : decode cX4_told 45 = .ok (.getfield 35, 3) := by decide +kernel
theorem dX4_told_48 : decode cX4_told 48 = .ok (.getfield 142, 3) := by decide +kernel
theorem dX4_told_51 : decode cX4_told 51 = .ok (.ireturn, 1) := by decide +kernel
theorem dX4_told_52 : decode cX4_told 52 = .ok (.aload_n 0, 1) := by decide +kernel
theorem dX4_told_53 : decode cX4_told 53 = .ok (.getfield 35, 3) := by decide +kernel
theorem dX4_told_56 : decode cX4_told 56 = .ok (.getfield 145, 3) := by decide +kernel
theorem dX4_told_59 : decode cX4_told 59 = .ok (.ireturn, 1) := by decide +kernel
theorem dX4_told_60 : decode cX4_told 60 = .ok (.aload_n 0, 1) := by decide +kernel
theorem dX4_told_61 : decode cX4_told 61 = .ok (.getfield 35, 3) := by decide +kernel
theorem dX4_told_64 : decode cX4_told 64 = .ok (.getfield 148, 3) := by decide +kernel
theorem dX4_told_67 : decode cX4_told 67 = .ok (.ireturn, 1) := by decide +kernel
theorem dX4_told_68 : decode cX4_told 68 = .ok (.aload_n 0, 1) := by decide +kernel
theorem dX4_told_69 : decode cX4_told 69 = .ok (.getfield 35, 3) := by decide +kernel
theorem dX4_told_72 : decode cX4_told 72 = .ok (.invokevirtual 109, 3) := by decide +kernel
theorem dX4_told_75 : decode cX4_told 75 = .ok (.ireturn, 1) := by decide +kernel
theorem dX4_told_76 : decode cX4_told 76 = .ok (.aload_n 0, 1) := by decide +kernel
theorem dX4_told_77 : decode cX4_told 77 = .ok (.getfield 35, 3) := by decide +kernel
theorem dX4_told_80 : decode cX4_told 80 = .ok (.getfield 120, 3) := by decide +kernel
theorem dX4_told_83 : decode cX4_told 83 = .ok (.ireturn, 1) := by decide +kernel
theorem dX4_told_84 : decode cX4_told 84 = .ok (.aload_n 0, 1) := by decide +kernel
theorem dX4_told_85 : decode cX4_told 85 = .ok (.getfield 35, 3) := by decide +kernel
theorem dX4_told_88 : decode cX4_told 88 = .ok (.invokevirtual 117, 3) := by decide +kernel
theorem dX4_told_91 : decode cX4_told 91 = .ok (.ireturn, 1) := by decide +kernel
theorem dX4_told_92 : decode cX4_told 92 = .ok (.aload_n 0, 1) := by decide +kernel
theorem dX4_told_93 : decode cX4_told 93 = .ok (.getfield 35, 3) := by decide +kernel
theorem dX4_told_96 : decode cX4_told 96 = .ok (.getfield 136, 3) := by decide +kernel
theorem dX4_told_99 : decode cX4_told 99 = .ok (.ireturn, 1) := by decide +kernel
theorem dX4_told_100 : decode cX4_told 100 = .ok (.bipush (-2), 2) := by decide +kernel
theorem dX4_told_102 : decode cX4_told 102 = .ok (.ireturn, 1) := by decide +kernel
theorem dX4_seal_0 : decode cX4_seal 0 = .ok (.iload_n 1, 1) := by decide +kernel
theorem dX4_seal_1 : decode cX4_seal 1 = .ok (.invokestatic 39, 3) := by decide +kernel
theorem dX4_seal_4 : decode cX4_seal 4 = .ok (.ifCond .ne 6, 3) := by decide +kernel
theorem dX4_seal_7 : decode cX4_seal 7 = .ok (.bipush (-2), 2) := by decide +kernel
theorem dX4_seal_9 : decode cX4_seal 9 = .ok (.ireturn, 1) := by decide +kernel
theorem dX4_seal_10 : decode cX4_seal 10 = .ok (.aload_n 0, 1) := by decide +kernel
theorem dX4_seal_11 : decode cX4_seal 11 = .ok (.iload_n 2, 1) := by decide +kernel
theorem dX4_seal_12 : decode cX4_seal 12 = .ok (.iload_n 3, 1) := by decide +kernel
theorem dX4_seal_13 : decode cX4_seal 13 = .ok (.iload 4, 2) := by decide +kernel
theorem dX4_seal_15 : decode cX4_seal 15 = .ok (.iload 5, 2) := by decide +kernel
theorem dX4_seal_17 : decode cX4_seal 17 = .ok (.iload 6, 2) := by decide +kernel
theorem dX4_seal_19 : decode cX4_seal 19 = .ok (.iload 7, 2) := by decide +kernel
theorem dX4_seal_21 : decode cX4_seal 21 = .ok (.iload 8, 2) := by decide +kernel
theorem dX4_seal_23 : decode cX4_seal 23 = .ok (.iconst (-1), 1) := by decide +kernel
theorem dX4_seal_24 : decode cX4_seal 24 = .ok (.iconst (-1), 1) := by decide +kernel
theorem dX4_seal_25 : decode cX4_seal 25 = .ok (.invokevirtual 151, 3) := by decide +kernel
theorem dX4_seal_28 : decode cX4_seal 28 = .ok (.istore 9, 2) := by decide +kernel
theorem dX4_seal_30 : decode cX4_seal 30 = .ok (.iload 9, 2) := by decide +kernel
theorem dX4_seal_32 : decode cX4_seal 32 = .ok (.bipush (-2), 2) := by decide +kernel
theorem dX4_seal_34 : decode cX4_seal 34 = .ok (.if_icmp .ne 6, 3) := by decide +kernel
theorem dX4_seal_37 : decode cX4_seal 37 = .ok (.bipush (-2), 2) := by decide +kernel
theorem dX4_seal_39 : decode cX4_seal 39 = .ok (.ireturn, 1) := by decide +kernel
theorem dX4_seal_40 : decode cX4_seal 40 = .ok (.aload_n 0, 1) := by decide +kernel
theorem dX4_seal_41 : decode cX4_seal 41 = .ok (.bipush 100, 2) := by decide +kernel
theorem dX4_seal_43 : decode cX4_seal 43 = .ok (.invokevirtual 155, 3) := by decide +kernel
theorem dX4_seal_46 : decode cX4_seal 46 = .ok (.pop, 1) := by decide +kernel
theorem dX4_seal_47 : decode cX4_seal 47 = .ok (.aload_n 0, 1) := by decide +kernel
theorem dX4_seal_48 : decode cX4_seal 48 = .ok (.iload_n 1, 1) := by decide +kernel
theorem dX4_seal_49 : decode cX4_seal 49 = .ok (.invokevirtual 158, 3) := by decide +kernel
theorem dX4_seal_52 : decode cX4_seal 52 = .ok (.ireturn, 1) := by decide +kernel
theorem dX4_isRegister_0 : decode cX4_isRegister 0 = .ok (.iload_n 0, 1) := by decide +kernel
theorem dX4_isRegister_1 : decode cX4_isRegister 1 = .ok (.ifCond .lt 13, 3) := by decide +kernel
theorem dX4_isRegister_4 : decode cX4_isRegister 4 = .ok (.iload_n 0, 1) := by decide +kernel
theorem dX4_isRegister_5 : decode cX4_isRegister 5 = .ok (.bipush 8, 2) := by decide +kernel
theorem dX4_isRegister_7 : decode cX4_isRegister 7 = .ok (.if_icmp .ge 7, 3) := by decide +kernel
theorem dX4_isRegister_10 : decode cX4_isRegister 10 = .ok (.iconst 1, 1) := by decide +kernel
theorem dX4_isRegister_11 : decode cX4_isRegister 11 = .ok (.goto 4, 3) := by decide +kernel
theorem dX4_isRegister_14 : decode cX4_isRegister 14 = .ok (.iconst 0, 1) := by decide +kernel
theorem dX4_isRegister_15 : decode cX4_isRegister 15 = .ok (.ireturn, 1) := by decide +kernel
theorem dX4_isRegisterOrNone_0 : decode cX4_isRegisterOrNone 0 = .ok (.iload_n 0, 1) := by decide +kernel
theorem dX4_isRegisterOrNone_1 : decode cX4_isRegisterOrNone 1 = .ok (.iconst (-1), 1) := by decide +kernel
theorem dX4_isRegisterOrNone_2 : decode cX4_isRegisterOrNone 2 = .ok (.if_icmp .eq 10, 3) := by decide +kernel
theorem dX4_isRegisterOrNone_5 : decode cX4_isRegisterOrNone 5 = .ok (.iload_n 0, 1) := by decide +kernel
theorem dX4_isRegisterOrNone_6 : decode cX4_isRegisterOrNone 6 = .ok (.invokestatic 39, 3) := by decide +kernel
theorem dX4_isRegisterOrNone_9 : decode cX4_isRegisterOrNone 9 = .ok (.ifCond .eq 7, 3) := by decide +kernel
theorem dX4_isRegisterOrNone_12 : decode cX4_isRegisterOrNone 12 = .ok (.iconst 1, 1) := by decide +kernel
theorem dX4_isRegisterOrNone_13 : decode cX4_isRegisterOrNone 13 = .ok (.goto 4, 3) := by decide +kernel
theorem dX4_isRegisterOrNone_16 : decode cX4_isRegisterOrNone 16 = .ok (.iconst 0, 1) := by decide +kernel
theorem dX4_isRegisterOrNone_17 : decode cX4_isRegisterOrNone 17 = .ok (.ireturn, 1) := by decide +kernel
theorem dX4_bytesOf_0 : decode cX4_bytesOf 0 = .ok (.iload_n 1, 1) := by decide +kernel
theorem dX4_bytesOf_1 : decode cX4_bytesOf 1 = .ok (.invokestatic 39, 3) := by decide +kernel
theorem dX4_bytesOf_4 : decode cX4_bytesOf 4 = .ok (.ifCond .eq 12, 3) := by decide +kernel
theorem dX4_bytesOf_7 : decode cX4_bytesOf 7 = .ok (.aload_n 0, 1) := by decide +kernel
theorem dX4_bytesOf_8 : decode cX4_bytesOf 8 = .ok (.getfield 11, 3) := by decide +kernel
theorem dX4_bytesOf_11 : decode cX4_bytesOf 11 = .ok (.iload_n 1, 1) := by decide +kernel
theorem dX4_bytesOf_12 : decode cX4_bytesOf 12 = .ok (.aaload, 1) := by decide +kernel
theorem dX4_bytesOf_13 : decode cX4_bytesOf 13 = .ok (.goto 7, 3) := by decide +kernel
theorem dX4_bytesOf_16 : decode cX4_bytesOf 16 = .ok (.aload_n 0, 1) := by decide +kernel
theorem dX4_bytesOf_17 : decode cX4_bytesOf 17 = .ok (.getfield 18, 3) := by decide +kernel
theorem dX4_bytesOf_20 : decode cX4_bytesOf 20 = .ok (.areturn, 1) := by decide +kernel
theorem dX4_putWithLength_0 : decode cX4_putWithLength 0 = .ok (.aload_n 0, 1) := by decide +kernel
theorem dX4_putWithLength_1 : decode cX4_putWithLength 1 = .ok (.iload_n 1, 1) := by decide +kernel
theorem dX4_putWithLength_2 : decode cX4_putWithLength 2 = .ok (.invokevirtual 43, 3) := by decide +kernel
theorem dX4_putWithLength_5 : decode cX4_putWithLength 5 = .ok (.astore_n 2, 1) := by decide +kernel
theorem dX4_putWithLength_6 : decode cX4_putWithLength 6 = .ok (.aload_n 0, 1) := by decide +kernel
theorem dX4_putWithLength_7 : decode cX4_putWithLength 7 = .ok (.getfield 28, 3) := by decide +kernel
theorem dX4_putWithLength_10 : decode cX4_putWithLength 10 = .ok (.getfield 69, 3) := by decide +kernel
theorem dX4_putWithLength_13 : decode cX4_putWithLength 13 = .ok (.aload_n 2, 1) := by decide +kernel
theorem dX4_putWithLength_14 : decode cX4_putWithLength 14 = .ok (.getfield 47, 3) := by decide +kernel
theorem dX4_putWithLength_17 : decode cX4_putWithLength 17 = .ok (.i2l, 1) := by decide +kernel
theorem dX4_putWithLength_18 : decode cX4_putWithLength 18 = .ok (.iconst 4, 1) := by decide +kernel
theorem dX4_putWithLength_19 : decode cX4_putWithLength 19 = .ok (.invokevirtual 51, 3) := by decide +kernel
theorem dX4_putWithLength_22 : decode cX4_putWithLength 22 = .ok (.aload_n 0, 1) := by decide +kernel
theorem dX4_putWithLength_23 : decode cX4_putWithLength 23 = .ok (.getfield 28, 3) := by decide +kernel
theorem dX4_putWithLength_26 : decode cX4_putWithLength 26 = .ok (.getfield 69, 3) := by decide +kernel
theorem dX4_putWithLength_29 : decode cX4_putWithLength 29 = .ok (.aload_n 2, 1) := by decide +kernel
theorem dX4_putWithLength_30 : decode cX4_putWithLength 30 = .ok (.invokevirtual 72, 3) := by decide +kernel
theorem dX4_putWithLength_33 : decode cX4_putWithLength 33 = .ok (.return_, 1) := by decide +kernel
theorem dX4_layFirstBlocks_0 : decode cX4_layFirstBlocks 0 = .ok (.iconst 0, 1) := by decide +kernel
theorem dX4_layFirstBlocks_1 : decode cX4_layFirstBlocks 1 = .ok (.istore_n 1, 1) := by decide +kernel
theorem dX4_layFirstBlocks_2 : decode cX4_layFirstBlocks 2 = .ok (.iload_n 1, 1) := by decide +kernel
theorem dX4_layFirstBlocks_3 : decode cX4_layFirstBlocks 3 = .ok (.aload_n 0, 1) := by decide +kernel
theorem dX4_layFirstBlocks_4 : decode cX4_layFirstBlocks 4 = .ok (.getfield 35, 3) := by decide +kernel
theorem dX4_layFirstBlocks_7 : decode cX4_layFirstBlocks 7 = .ok (.getfield 145, 3) := by decide +kernel
theorem dX4_layFirstBlocks_10 : decode cX4_layFirstBlocks 10 = .ok (.if_icmp .ge 98, 3) := by decide +kernel
theorem dX4_layFirstBlocks_13 : decode cX4_layFirstBlocks 13 = .ok (.iconst 0, 1) := by decide +kernel
theorem dX4_layFirstBlocks_14 : decode cX4_layFirstBlocks 14 = .ok (.istore_n 2, 1) := by decide +kernel
theorem dX4_layFirstBlocks_15 : decode cX4_layFirstBlocks 15 = .ok (.iload_n 2, 1) := by decide +kernel
theorem dX4_layFirstBlocks_16 : decode cX4_layFirstBlocks 16 = .ok (.iconst 2, 1) := by decide +kernel
theorem dX4_layFirstBlocks_17 : decode cX4_layFirstBlocks 17 = .ok (.if_icmp .ge 85, 3) := by decide +kernel
theorem dX4_layFirstBlocks_20 : decode cX4_layFirstBlocks 20 = .ok (.aload_n 0, 1) := by decide +kernel
theorem dX4_layFirstBlocks_21 : decode cX4_layFirstBlocks 21 = .ok (.getfield 28, 3) := by decide +kernel
theorem dX4_layFirstBlocks_24 : decode cX4_layFirstBlocks 24 = .ok (.sipush 1024, 3) := by decide +kernel
theorem dX4_layFirstBlocks_27 : decode cX4_layFirstBlocks 27 = .ok (.invokevirtual 85, 3) := by decide +kernel
theorem dX4_layFirstBlocks_30 : decode cX4_layFirstBlocks 30 = .ok (.aload_n 0, 1) := by decide +kernel
theorem dX4_layFirstBlocks_31 : decode cX4_layFirstBlocks 31 = .ok (.getfield 28, 3) := by decide +kernel
theorem dX4_layFirstBlocks_34 : decode cX4_layFirstBlocks 34 = .ok (.getfield 69, 3) := by decide +kernel
theorem dX4_layFirstBlocks_37 : decode cX4_layFirstBlocks 37 = .ok (.aload_n 0, 1) := by decide +kernel
theorem dX4_layFirstBlocks_38 : decode cX4_layFirstBlocks 38 = .ok (.getfield 22, 3) := by decide +kernel
theorem dX4_layFirstBlocks_41 : decode cX4_layFirstBlocks 41 = .ok (.invokevirtual 72, 3) := by decide +kernel
theorem dX4_layFirstBlocks_44 : decode cX4_layFirstBlocks 44 = .ok (.aload_n 0, 1) := by decide +kernel
theorem dX4_layFirstBlocks_45 : decode cX4_layFirstBlocks 45 = .ok (.getfield 28, 3) := by decide +kernel
theorem dX4_layFirstBlocks_48 : decode cX4_layFirstBlocks 48 = .ok (.getfield 69, 3) := by decide +kernel
theorem dX4_layFirstBlocks_51 : decode cX4_layFirstBlocks 51 = .ok (.iload_n 2, 1) := by decide +kernel
theorem dX4_layFirstBlocks_52 : decode cX4_layFirstBlocks 52 = .ok (.i2l, 1) := by decide +kernel
theorem dX4_layFirstBlocks_53 : decode cX4_layFirstBlocks 53 = .ok (.iconst 4, 1) := by decide +kernel
theorem dX4_layFirstBlocks_54 : decode cX4_layFirstBlocks 54 = .ok (.invokevirtual 51, 3) := by decide +kernel
theorem dX4_layFirstBlocks_57 : decode cX4_layFirstBlocks 57 = .ok (.aload_n 0, 1) := by decide +kernel
theorem dX4_layFirstBlocks_58 : decode cX4_layFirstBlocks 58 = .ok (.getfield 28, 3) := by decide +kernel
theorem dX4_layFirstBlocks_61 : decode cX4_layFirstBlocks 61 = .ok (.getfield 69, 3) := by decide +kernel
theorem dX4_layFirstBlocks_64 : decode cX4_layFirstBlocks 64 = .ok (.iload_n 1, 1) := by decide +kernel
theorem dX4_layFirstBlocks_65 : decode cX4_layFirstBlocks 65 = .ok (.i2l, 1) := by decide +kernel
theorem dX4_layFirstBlocks_66 : decode cX4_layFirstBlocks 66 = .ok (.iconst 4, 1) := by decide +kernel
theorem dX4_layFirstBlocks_67 : decode cX4_layFirstBlocks 67 = .ok (.invokevirtual 51, 3) := by decide +kernel
theorem dX4_layFirstBlocks_70 : decode cX4_layFirstBlocks 70 = .ok (.aload_n 0, 1) := by decide +kernel
theorem dX4_layFirstBlocks_71 : decode cX4_layFirstBlocks 71 = .ok (.getfield 28, 3) := by decide +kernel
theorem dX4_layFirstBlocks_74 : decode cX4_layFirstBlocks 74 = .ok (.sipush 1024, 3) := by decide +kernel
theorem dX4_layFirstBlocks_77 : decode cX4_layFirstBlocks 77 = .ok (.invokevirtual 88, 3) := by decide +kernel
theorem dX4_layFirstBlocks_80 : decode cX4_layFirstBlocks 80 = .ok (.aload_n 0, 1) := by decide +kernel
theorem dX4_layFirstBlocks_81 : decode cX4_layFirstBlocks 81 = .ok (.getfield 35, 3) := by decide +kernel
theorem dX4_layFirstBlocks_84 : decode cX4_layFirstBlocks 84 = .ok (.iload_n 1, 1) := by decide +kernel
theorem dX4_layFirstBlocks_85 : decode cX4_layFirstBlocks 85 = .ok (.iload_n 2, 1) := by decide +kernel
theorem dX4_layFirstBlocks_86 : decode cX4_layFirstBlocks 86 = .ok (.aload_n 0, 1) := by decide +kernel
theorem dX4_layFirstBlocks_87 : decode cX4_layFirstBlocks 87 = .ok (.getfield 28, 3) := by decide +kernel
theorem dX4_layFirstBlocks_90 : decode cX4_layFirstBlocks 90 = .ok (.getfield 79, 3) := by decide +kernel
theorem dX4_layFirstBlocks_93 : decode cX4_layFirstBlocks 93 = .ok (.invokevirtual 161, 3) := by decide +kernel
theorem dX4_layFirstBlocks_96 : decode cX4_layFirstBlocks 96 = .ok (.iinc 2 1, 3) := by decide +kernel
theorem dX4_layFirstBlocks_99 : decode cX4_layFirstBlocks 99 = .ok (.goto (-84), 3) := by decide +kernel
theorem dX4_layFirstBlocks_102 : decode cX4_layFirstBlocks 102 = .ok (.iinc 1 1, 3) := by decide +kernel
theorem dX4_layFirstBlocks_105 : decode cX4_layFirstBlocks 105 = .ok (.goto (-103), 3) := by decide +kernel
theorem dX4_layFirstBlocks_108 : decode cX4_layFirstBlocks 108 = .ok (.return_, 1) := by decide +kernel
theorem dX4_turnRight_0 : decode cX4_turnRight 0 = .ok (.lload_n 0, 1) := by decide +kernel
theorem dX4_turnRight_1 : decode cX4_turnRight 1 = .ok (.iload_n 2, 1) := by decide +kernel
theorem dX4_turnRight_2 : decode cX4_turnRight 2 = .ok (.lushr, 1) := by decide +kernel
theorem dX4_turnRight_3 : decode cX4_turnRight 3 = .ok (.lload_n 0, 1) := by decide +kernel
theorem dX4_turnRight_4 : decode cX4_turnRight 4 = .ok (.bipush 64, 2) := by decide +kernel
theorem dX4_turnRight_6 : decode cX4_turnRight 6 = .ok (.iload_n 2, 1) := by decide +kernel
theorem dX4_turnRight_7 : decode cX4_turnRight 7 = .ok (.isub, 1) := by decide +kernel
theorem dX4_turnRight_8 : decode cX4_turnRight 8 = .ok (.lshl, 1) := by decide +kernel
theorem dX4_turnRight_9 : decode cX4_turnRight 9 = .ok (.lor, 1) := by decide +kernel
theorem dX4_turnRight_10 : decode cX4_turnRight 10 = .ok (.lreturn, 1) := by decide +kernel
theorem dX5_init_0 : decode cX5_init 0 = .ok (.aload_n 0, 1) := by decide +kernel
theorem dX5_init_1 : decode cX5_init 1 = .ok (.invokespecial 1, 3) := by decide +kernel
theorem dX5_init_4 : decode cX5_init 4 = .ok (.aload_n 0, 1) := by decide +kernel
theorem dX5_init_5 : decode cX5_init 5 = .ok (.bipush 8, 2) := by decide +kernel
theorem dX5_init_7 : decode cX5_init 7 = .ok (.newarray .int, 2) := by decide +kernel
theorem dX5_init_9 : decode cX5_init 9 = .ok (.putfield 7, 3) := by decide +kernel
theorem dX5_init_12 : decode cX5_init 12 = .ok (.aload_n 0, 1) := by decide +kernel
theorem dX5_init_13 : decode cX5_init 13 = .ok (.sipush 1600, 3) := by decide +kernel
theorem dX5_init_16 : decode cX5_init 16 = .ok (.newarray .int, 2) := by decide +kernel
theorem dX5_init_18 : decode cX5_init 18 = .ok (.putfield 13, 3) := by decide +kernel
theorem dX5_init_21 : decode cX5_init 21 = .ok (.aload_n 0, 1) := by decide +kernel
theorem dX5_init_22 : decode cX5_init 22 = .ok (.bipush 64, 2) := by decide +kernel
theorem dX5_init_24 : decode cX5_init 24 = .ok (.newarray .int, 2) := by decide +kernel
theorem dX5_init_26 : decode cX5_init 26 = .ok (.putfield 16, 3) := by decide +kernel
theorem dX5_init_29 : decode cX5_init 29 = .ok (.aload_n 0, 1) := by decide +kernel
theorem dX5_init_30 : decode cX5_init 30 = .ok (.sipush 1400, 3) := by decide +kernel
theorem dX5_init_33 : decode cX5_init 33 = .ok (.newarray .int, 2) := by decide +kernel
theorem dX5_init_35 : decode cX5_init 35 = .ok (.putfield 19, 3) := by decide +kernel
theorem dX5_init_38 : decode cX5_init 38 = .ok (.aload_n 0, 1) := by decide +kernel
theorem dX5_init_39 : decode cX5_init 39 = .ok (.bipush 8, 2) := by decide +kernel
theorem dX5_init_41 : decode cX5_init 41 = .ok (.newarray .long, 2) := by decide +kernel
theorem dX5_init_43 : decode cX5_init 43 = .ok (.putfield 22, 3) := by decide +kernel
theorem dX5_init_46 : decode cX5_init 46 = .ok (.aload_n 0, 1) := by decide +kernel
theorem dX5_init_47 : decode cX5_init 47 = .ok (.bipush 16, 2) := by decide +kernel
theorem dX5_init_49 : decode cX5_init 49 = .ok (.newarray .long, 2) := by decide +kernel
theorem dX5_init_51 : decode cX5_init 51 = .ok (.putfield 26, 3) := by decide +kernel
theorem dX5_init_54 : decode cX5_init 54 = .ok (.aload_n 0, 1) := by decide +kernel
theorem dX5_init_55 : decode cX5_init 55 = .ok (.bipush 16, 2) := by decide +kernel
theorem dX5_init_57 : decode cX5_init 57 = .ok (.newarray .long, 2) := by decide +kernel
theorem dX5_init_59 : decode cX5_init 59 = .ok (.putfield 29, 3) := by decide +kernel
theorem dX5_init_62 : decode cX5_init 62 = .ok (.aload_n 0, 1) := by decide +kernel
theorem dX5_init_63 : decode cX5_init 63 = .ok (.sipush 1024, 3) := by decide +kernel
theorem dX5_init_66 : decode cX5_init 66 = .ok (.newarray .int, 2) := by decide +kernel
theorem dX5_init_68 : decode cX5_init 68 = .ok (.putfield 32, 3) := by decide +kernel
theorem dX5_init_71 : decode cX5_init 71 = .ok (.aload_n 0, 1) := by decide +kernel
theorem dX5_init_72 : decode cX5_init 72 = .ok (.sipush 16384, 3) := by decide +kernel
theorem dX5_init_75 : decode cX5_init 75 = .ok (.newarray .long, 2) := by decide +kernel
theorem dX5_init_77 : decode cX5_init 77 = .ok (.putfield 35, 3) := by decide +kernel
theorem dX5_init_80 : decode cX5_init 80 = .ok (.aload_n 0, 1) := by decide +kernel
theorem dX5_init_81 : decode cX5_init 81 = .ok (.sipush 128, 3) := by decide +kernel
theorem dX5_init_84 : decode cX5_init 84 = .ok (.newarray .long, 2) := by decide +kernel
theorem dX5_init_86 : decode cX5_init 86 = .ok (.putfield 38, 3) := by decide +kernel
theorem dX5_init_89 : decode cX5_init 89 = .ok (.aload_n 0, 1) := by decide +kernel
theorem dX5_init_90 : decode cX5_init 90 = .ok (.sipush 128, 3) := by decide +kernel
theorem dX5_init_93 : decode cX5_init 93 = .ok (.newarray .long, 2) := by decide +kernel
theorem dX5_init_95 : decode cX5_init 95 = .ok (.putfield 41, 3) := by decide +kernel
theorem dX5_init_98 : decode cX5_init 98 = .ok (.aload_n 0, 1) := by decide +kernel
theorem dX5_init_99 : decode cX5_init 99 = .ok (.sipush 128, 3) := by decide +kernel
theorem dX5_init_102 : decode cX5_init 102 = .ok (.newarray .long, 2) := by decide +kernel
theorem dX5_init_104 : decode cX5_init 104 = .ok (.putfield 44, 3) := by decide +kernel
theorem dX5_init_107 : decode cX5_init 107 = .ok (.aload_n 0, 1) := by decide +kernel
theorem dX5_init_108 : decode cX5_init 108 = .ok (.sipush 128, 3) := by decide +kernel
theorem dX5_init_111 : decode cX5_init 111 = .ok (.newarray .long, 2) := by decide +kernel
theorem dX5_init_113 : decode cX5_init 113 = .ok (.putfield 47, 3) := by decide +kernel
theorem dX5_init_116 : decode cX5_init 116 = .ok (.return_, 1) := by decide +kernel
theorem dX5_in_0 : decode cX5_in 0 = .ok (.iload_n 0, 1) := by decide +kernel
theorem dX5_in_1 : decode cX5_in 1 = .ok (.iload_n 1, 1) := by decide +kernel
theorem dX5_in_2 : decode cX5_in 2 = .ok (.if_icmp .lt 12, 3) := by decide +kernel
theorem dX5_in_5 : decode cX5_in 5 = .ok (.iload_n 0, 1) := by decide +kernel
theorem dX5_in_6 : decode cX5_in 6 = .ok (.iload_n 2, 1) := by decide +kernel
theorem dX5_in_7 : decode cX5_in 7 = .ok (.if_icmp .gt 7, 3) := by decide +kernel
theorem dX5_in_10 : decode cX5_in 10 = .ok (.iconst 1, 1) := by decide +kernel
theorem dX5_in_11 : decode cX5_in 11 = .ok (.goto 4, 3) := by decide +kernel
theorem dX5_in_14 : decode cX5_in 14 = .ok (.iconst 0, 1) := by decide +kernel
theorem dX5_in_15 : decode cX5_in 15 = .ok (.ireturn, 1) := by decide +kernel
theorem dX5_isRegister_0 : decode cX5_isRegister 0 = .ok (.iload_n 0, 1) := by decide +kernel
theorem dX5_isRegister_1 : decode cX5_isRegister 1 = .ok (.iconst 0, 1) := by decide +kernel
theorem dX5_isRegister_2 : decode cX5_isRegister 2 = .ok (.bipush 7, 2) := by decide +kernel
theorem dX5_isRegister_4 : decode cX5_isRegister 4 = .ok (.invokestatic 54, 3) := by decide +kernel
theorem dX5_isRegister_7 : decode cX5_isRegister 7 = .ok (.ireturn, 1) := by decide +kernel
