theorem dX5_add_0 : decode cX5_add 0 = .ok (.aload_n 0, 1) := by decide +kernel
theorem dX5_add_1 : decode cX5_add 1 = .ok (.iconst 0, 1) := by decide +kernel
theorem dX5_add_2 : decode cX5_add 2 = .ok (.putfield 50, 3) := by decide +kernel
theorem dX5_add_5 : decode cX5_add 5 = .ok (.iload_n 1, 1) := by decide +kernel
theorem dX5_add_6 : decode cX5_add 6 = .ok (.invokestatic 58, 3) := by decide +kernel
theorem dX5_add_9 : decode cX5_add 9 = .ok (.ifCond .eq 13, 3) := by decide +kernel
theorem dX5_add_12 : decode cX5_add 12 = .ok (.iload_n 2, 1) := by decide +kernel
theorem dX5_add_13 : decode cX5_add 13 = .ok (.iconst 1, 1) := by decide +kernel
theorem dX5_add_14 : decode cX5_add 14 = .ok (.bipush 8, 2) := by decide +kernel
theorem dX5_add_16 : decode cX5_add 16 = .ok (.invokestatic 54, 3) := by decide +kernel
theorem dX5_add_19 : decode cX5_add 19 = .ok (.ifCond .ne 6, 3) := by decide +kernel
theorem dX5_add_22 : decode cX5_add 22 = .ok (.bipush (-2), 2) := by decide +kernel
theorem dX5_add_24 : decode cX5_add 24 = .ok (.ireturn, 1) := by decide +kernel
theorem dX5_add_25 : decode cX5_add 25 = .ok (.aload_n 0, 1) := by decide +kernel
theorem dX5_add_26 : decode cX5_add 26 = .ok (.getfield 7, 3) := by decide +kernel
theorem dX5_add_29 : decode cX5_add 29 = .ok (.iload_n 1, 1) := by decide +kernel
theorem dX5_add_30 : decode cX5_add 30 = .ok (.iaload, 1) := by decide +kernel
theorem dX5_add_31 : decode cX5_add 31 = .ok (.iload_n 2, 1) := by decide +kernel
theorem dX5_add_32 : decode cX5_add 32 = .ok (.iadd, 1) := by decide +kernel
theorem dX5_add_33 : decode cX5_add 33 = .ok (.sipush 200, 3) := by decide +kernel
theorem dX5_add_36 : decode cX5_add 36 = .ok (.if_icmp .le 6, 3) := by decide +kernel
theorem dX5_add_39 : decode cX5_add 39 = .ok (.bipush (-3), 2) := by decide +kernel
theorem dX5_add_41 : decode cX5_add 41 = .ok (.ireturn, 1) := by decide +kernel
theorem dX5_add_42 : decode cX5_add 42 = .ok (.iconst 0, 1) := by decide +kernel
theorem dX5_add_43 : decode cX5_add 43 = .ok (.istore 5, 2) := by decide +kernel
theorem dX5_add_45 : decode cX5_add 45 = .ok (.iload 5, 2) := by decide +kernel
theorem dX5_add_47 : decode cX5_add 47 = .ok (.iload_n 2, 1) := by decide +kernel
theorem dX5_add_48 : decode cX5_add 48 = .ok (.if_icmp .ge 48, 3) := by decide +kernel
theorem dX5_add_51 : decode cX5_add 51 = .ok (.aload_n 0, 1) := by decide +kernel
theorem dX5_add_52 : decode cX5_add 52 = .ok (.getfield 13, 3) := by decide +kernel
theorem dX5_add_55 : decode cX5_add 55 = .ok (.sipush 200, 3) := by decide +kernel
theorem dX5_add_58 : decode cX5_add 58 = .ok (.iload_n 1, 1) := by decide +kernel
theorem dX5_add_59 : decode cX5_add 59 = .ok (.imul, 1) := by decide +kernel
theorem dX5_add_60 : decode cX5_add 60 = .ok (.aload_n 0, 1) := by decide +kernel
theorem dX5_add_61 : decode cX5_add 61 = .ok (.getfield 7, 3) := by decide +kernel
theorem dX5_add_64 : decode cX5_add 64 = .ok (.iload_n 1, 1) := by decide +kernel
theorem dX5_add_65 : decode cX5_add 65 = .ok (.iaload, 1) := by decide +kernel
theorem dX5_add_66 : decode cX5_add 66 = .ok (.iadd, 1) := by decide +kernel
theorem dX5_add_67 : decode cX5_add 67 = .ok (.lload_n 3, 1) := by decide +kernel
theorem dX5_add_68 : decode cX5_add 68 = .ok (.bipush 8, 2) := by decide +kernel
theorem dX5_add_70 : decode cX5_add 70 = .ok (.iload 5, 2) := by decide +kernel
theorem dX5_add_72 : decode cX5_add 72 = .ok (.imul, 1) := by decide +kernel
theorem dX5_add_73 : decode cX5_add 73 = .ok (.lshr, 1) := by decide +kernel
theorem dX5_add_74 : decode cX5_add 74 = .ok (.ldc2_w 62, 3) := by decide +kernel
theorem dX5_add_77 : decode cX5_add 77 = .ok (.land, 1) := by decide +kernel
theorem dX5_add_78 : decode cX5_add 78 = .ok (.l2i, 1) := by decide +kernel
theorem dX5_add_79 : decode cX5_add 79 = .ok (.iastore, 1) := by decide +kernel
theorem dX5_add_80 : decode cX5_add 80 = .ok (.aload_n 0, 1) := by decide +kernel
theorem dX5_add_81 : decode cX5_add 81 = .ok (.getfield 7, 3) := by decide +kernel
theorem dX5_add_84 : decode cX5_add 84 = .ok (.iload_n 1, 1) := by decide +kernel
theorem dX5_add_85 : decode cX5_add 85 = .ok (.dup2, 1) := by decide +kernel
theorem dX5_add_86 : decode cX5_add 86 = .ok (.iaload, 1) := by decide +kernel
theorem dX5_add_87 : decode cX5_add 87 = .ok (.iconst 1, 1) := by decide +kernel
theorem dX5_add_88 : decode cX5_add 88 = .ok (.iadd, 1) := by decide +kernel
theorem dX5_add_89 : decode cX5_add 89 = .ok (.iastore, 1) := by decide +kernel
theorem dX5_add_90 : decode cX5_add 90 = .ok (.iinc 5 1, 3) := by decide +kernel
theorem dX5_add_93 : decode cX5_add 93 = .ok (.goto (-48), 3) := by decide +kernel
theorem dX5_add_96 : decode cX5_add 96 = .ok (.aload_n 0, 1) := by decide +kernel
theorem dX5_add_97 : decode cX5_add 97 = .ok (.getfield 7, 3) := by decide +kernel
theorem dX5_add_100 : decode cX5_add 100 = .ok (.iload_n 1, 1) := by decide +kernel
theorem dX5_add_101 : decode cX5_add 101 = .ok (.iaload, 1) := by decide +kernel
theorem dX5_add_102 : decode cX5_add 102 = .ok (.ireturn, 1) := by decide +kernel
theorem dX5_clear_0 : decode cX5_clear 0 = .ok (.aload_n 0, 1) := by decide +kernel
theorem dX5_clear_1 : decode cX5_clear 1 = .ok (.iconst 0, 1) := by decide +kernel
theorem dX5_clear_2 : decode cX5_clear 2 = .ok (.putfield 50, 3) := by decide +kernel
theorem dX5_clear_5 : decode cX5_clear 5 = .ok (.iload_n 1, 1) := by decide +kernel
theorem dX5_clear_6 : decode cX5_clear 6 = .ok (.invokestatic 58, 3) := by decide +kernel
theorem dX5_clear_9 : decode cX5_clear 9 = .ok (.ifCond .ne 6, 3) := by decide +kernel
theorem dX5_clear_12 : decode cX5_clear 12 = .ok (.bipush (-2), 2) := by decide +kernel
theorem dX5_clear_14 : decode cX5_clear 14 = .ok (.ireturn, 1) := by decide +kernel
theorem dX5_clear_15 : decode cX5_clear 15 = .ok (.aload_n 0, 1) := by decide +kernel
theorem dX5_clear_16 : decode cX5_clear 16 = .ok (.getfield 7, 3) := by decide +kernel
theorem dX5_clear_19 : decode cX5_clear 19 = .ok (.iload_n 1, 1) := by decide +kernel
theorem dX5_clear_20 : decode cX5_clear 20 = .ok (.iaload, 1) := by decide +kernel
theorem dX5_clear_21 : decode cX5_clear 21 = .ok (.istore_n 2, 1) := by decide +kernel
theorem dX5_clear_22 : decode cX5_clear 22 = .ok (.aload_n 0, 1) := by decide +kernel
theorem dX5_clear_23 : decode cX5_clear 23 = .ok (.getfield 7, 3) := by decide +kernel
theorem dX5_clear_26 : decode cX5_clear 26 = .ok (.iload_n 1, 1) := by decide +kernel
theorem dX5_clear_27 : decode cX5_clear 27 = .ok (.iconst 0, 1) := by decide +kernel
theorem dX5_clear_28 : decode cX5_clear 28 = .ok (.iastore, 1) := by decide +kernel
theorem dX5_clear_29 : decode cX5_clear 29 = .ok (.iload_n 2, 1) := by decide +kernel
theorem dX5_clear_30 : decode cX5_clear 30 = .ok (.ireturn, 1) := by decide +kernel
theorem dX5_size_0 : decode cX5_size 0 = .ok (.aload_n 0, 1) := by decide +kernel
theorem dX5_size_1 : decode cX5_size 1 = .ok (.iconst 0, 1) := by decide +kernel
theorem dX5_size_2 : decode cX5_size 2 = .ok (.putfield 50, 3) := by decide +kernel
theorem dX5_size_5 : decode cX5_size 5 = .ok (.iload_n 1, 1) := by decide +kernel
theorem dX5_size_6 : decode cX5_size 6 = .ok (.invokestatic 58, 3) := by decide +kernel
theorem dX5_size_9 : decode cX5_size 9 = .ok (.ifCond .eq 12, 3) := by decide +kernel
theorem dX5_size_12 : decode cX5_size 12 = .ok (.aload_n 0, 1) := by decide +kernel
theorem dX5_size_13 : decode cX5_size 13 = .ok (.getfield 7, 3) := by decide +kernel
theorem dX5_size_16 : decode cX5_size 16 = .ok (.iload_n 1, 1) := by decide +kernel
theorem dX5_size_17 : decode cX5_size 17 = .ok (.iaload, 1) := by decide +kernel
theorem dX5_size_18 : decode cX5_size 18 = .ok (.goto 5, 3) := by decide +kernel
theorem dX5_size_21 : decode cX5_size 21 = .ok (.bipush (-2), 2) := by decide +kernel
theorem dX5_size_23 : decode cX5_size 23 = .ok (.ireturn, 1) := by decide +kernel
theorem dX5_at_0 : decode cX5_at 0 = .ok (.aload_n 0, 1) := by decide +kernel
theorem dX5_at_1 : decode cX5_at 1 = .ok (.iconst 0, 1) := by decide +kernel
theorem dX5_at_2 : decode cX5_at 2 = .ok (.putfield 50, 3) := by decide +kernel
theorem dX5_at_5 : decode cX5_at 5 = .ok (.iload_n 1, 1) := by decide +kernel
theorem dX5_at_6 : decode cX5_at 6 = .ok (.invokestatic 58, 3) := by decide +kernel
theorem dX5_at_9 : decode cX5_at 9 = .ok (.ifCond .ne 8, 3) := by decide +kernel
theorem dX5_at_12 : decode cX5_at 12 = .ok (.bipush (-2), 2) := by decide +kernel
theorem dX5_at_14 : decode cX5_at 14 = .ok (.goto 35, 3) := by decide +kernel
theorem dX5_at_17 : decode cX5_at 17 = .ok (.iload_n 2, 1) := by decide +kernel
theorem dX5_at_18 : decode cX5_at 18 = .ok (.iconst 0, 1) := by decide +kernel
theorem dX5_at_19 : decode cX5_at 19 = .ok (.aload_n 0, 1) := by decide +kernel
theorem dX5_at_20 : decode cX5_at 20 = .ok (.getfield 7, 3) := by decide +kernel
theorem dX5_at_23 : decode cX5_at 23 = .ok (.iload_n 1, 1) := by decide +kernel
theorem dX5_at_24 : decode cX5_at 24 = .ok (.iaload, 1) := by decide +kernel
theorem dX5_at_25 : decode cX5_at 25 = .ok (.iconst 1, 1) := by decide +kernel
theorem dX5_at_26 : decode cX5_at 26 = .ok (.isub, 1) := by decide +kernel
theorem dX5_at_27 : decode cX5_at 27 = .ok (.invokestatic 54, 3) := by decide +kernel
theorem dX5_at_30 : decode cX5_at 30 = .ok (.ifCond .eq 18, 3) := by decide +kernel
theorem dX5_at_33 : decode cX5_at 33 = .ok (.aload_n 0, 1) := by decide +kernel
theorem dX5_at_34 : decode cX5_at 34 = .ok (.getfield 13, 3) := by decide +kernel
theorem dX5_at_37 : decode cX5_at 37 = .ok (.sipush 200, 3) := by decide +kernel
theorem dX5_at_40 : decode cX5_at 40 = .ok (.iload_n 1, 1) := by decide +kernel
theorem dX5_at_41 : decode cX5_at 41 = .ok (.imul, 1) := by decide +kernel
theorem dX5_at_42 : decode cX5_at 42 = .ok (.iload_n 2, 1) := by decide +kernel
theorem dX5_at_43 : decode cX5_at 43 = .ok (.iadd, 1) := by decide +kernel
theorem dX5_at_44 : decode cX5_at 44 = .ok (.iaload, 1) := by decide +kernel
theorem dX5_at_45 : decode cX5_at 45 = .ok (.goto 4, 3) := by decide +kernel
theorem dX5_at_48 : decode cX5_at 48 = .ok (.iconst (-1), 1) := by decide +kernel
theorem dX5_at_49 : decode cX5_at 49 = .ok (.ireturn, 1) := by decide +kernel
theorem dX5_give_0 : decode cX5_give 0 = .ok (.iconst 0, 1) := by decide +kernel
theorem dX5_give_1 : decode cX5_give 1 = .ok (.istore_n 3, 1) := by decide +kernel
theorem dX5_give_2 : decode cX5_give 2 = .ok (.iload_n 3, 1) := by decide +kernel
theorem dX5_give_3 : decode cX5_give 3 = .ok (.iload_n 2, 1) := by decide +kernel
theorem dX5_give_4 : decode cX5_give 4 = .ok (.if_icmp .ge 27, 3) := by decide +kernel
theorem dX5_give_7 : decode cX5_give 7 = .ok (.aload_n 0, 1) := by decide +kernel
theorem dX5_give_8 : decode cX5_give 8 = .ok (.getfield 13, 3) := by decide +kernel
theorem dX5_give_11 : decode cX5_give 11 = .ok (.sipush 200, 3) := by decide +kernel
theorem dX5_give_14 : decode cX5_give 14 = .ok (.iload_n 1, 1) := by decide +kernel
theorem dX5_give_15 : decode cX5_give 15 = .ok (.imul, 1) := by decide +kernel
theorem dX5_give_16 : decode cX5_give 16 = .ok (.iload_n 3, 1) := by decide +kernel
theorem dX5_give_17 : decode cX5_give 17 = .ok (.iadd, 1) := by decide +kernel
theorem dX5_give_18 : decode cX5_give 18 = .ok (.aload_n 0, 1) := by decide +kernel
theorem dX5_give_19 : decode cX5_give 19 = .ok (.getfield 32, 3) := by decide +kernel
theorem dX5_give_22 : decode cX5_give 22 = .ok (.iload_n 3, 1) := by decide +kernel
theorem dX5_give_23 : decode cX5_give 23 = .ok (.iaload, 1) := by decide +kernel
theorem dX5_give_24 : decode cX5_give 24 = .ok (.iastore, 1) := by decide +kernel
theorem dX5_give_25 : decode cX5_give 25 = .ok (.iinc 3 1, 3) := by decide +kernel
theorem dX5_give_28 : decode cX5_give 28 = .ok (.goto (-26), 3) := by decide +kernel
theorem dX5_give_31 : decode cX5_give 31 = .ok (.aload_n 0, 1) := by decide +kernel
theorem dX5_give_32 : decode cX5_give 32 = .ok (.getfield 7, 3) := by decide +kernel
theorem dX5_give_35 : decode cX5_give 35 = .ok (.iload_n 1, 1) := by decide +kernel
theorem dX5_give_36 : decode cX5_give 36 = .ok (.iload_n 2, 1) := by decide +kernel
theorem dX5_give_37 : decode cX5_give 37 = .ok (.iastore, 1) := by decide +kernel
theorem dX5_give_38 : decode cX5_give 38 = .ok (.return_, 1) := by decide +kernel
theorem dX5_start_0 : decode cX5_start 0 = .ok (.iload_n 0, 1) := by decide +kernel
theorem dX5_start_1 : decode cX5_start 1 = .ok (.ifCond .ne 9, 3) := by decide +kernel
theorem dX5_start_4 : decode cX5_start 4 = .ok (.ldc2_w 64, 3) := by decide +kernel
theorem dX5_start_7 : decode cX5_start 7 = .ok (.goto 73, 3) := by decide +kernel
theorem dX5_start_10 : decode cX5_start 10 = .ok (.iload_n 0, 1) := by decide +kernel
theorem dX5_start_11 : decode cX5_start 11 = .ok (.iconst 1, 1) := by decide +kernel
theorem dX5_start_12 : decode cX5_start 12 = .ok (.if_icmp .ne 9, 3) := by decide +kernel
theorem dX5_start_15 : decode cX5_start 15 = .ok (.ldc2_w 66, 3) := by decide +kernel
theorem dX5_start_18 : decode cX5_start 18 = .ok (.goto 62, 3) := by decide +kernel
theorem dX5_start_21 : decode cX5_start 21 = .ok (.iload_n 0, 1) := by decide +kernel
theorem dX5_start_22 : decode cX5_start 22 = .ok (.iconst 2, 1) := by decide +kernel
theorem dX5_start_23 : decode cX5_start 23 = .ok (.if_icmp .ne 9, 3) := by decide +kernel
theorem dX5_start_26 : decode cX5_start 26 = .ok (.ldc2_w 68, 3) := by decide +kernel
theorem dX5_start_29 : decode cX5_start 29 = .ok (.goto 51, 3) := by decide +kernel
theorem dX5_start_32 : decode cX5_start 32 = .ok (.iload_n 0, 1) := by decide +kernel
theorem dX5_start_33 : decode cX5_start 33 = .ok (.iconst 3, 1) := by decide +kernel
theorem dX5_start_34 : decode cX5_start 34 = .ok (.if_icmp .ne 9, 3) := by decide +kernel
theorem dX5_start_37 : decode cX5_start 37 = .ok (.ldc2_w 70, 3) := by decide +kernel
theorem dX5_start_40 : decode cX5_start 40 = .ok (.goto 40, 3) := by decide +kernel
theorem dX5_start_43 : decode cX5_start 43 = .ok (.iload_n 0, 1) := by decide +kernel
theorem dX5_start_44 : decode cX5_start 44 = .ok (.iconst 4, 1) := by decide +kernel
theorem dX5_start_45 : decode cX5_start 45 = .ok (.if_icmp .ne 9, 3) := by decide +kernel
theorem dX5_start_48 : decode cX5_start 48 = .ok (.ldc2_w 72, 3) := by decide +kernel
theorem dX5_start_51 : decode cX5_start 51 = .ok (.goto 29, 3) := by decide +kernel
theorem dX5_start_54 : decode cX5_start 54 = .ok (.iload_n 0, 1) := by decide +kernel
theorem dX5_start_55 : decode cX5_start 55 = .ok (.iconst 5, 1) := by decide +kernel
theorem dX5_start_56 : decode cX5_start 56 = .ok (.if_icmp .ne 9, 3) := by decide +kernel
theorem dX5_start_59 : decode cX5_start 59 = .ok (.ldc2_w 74, 3) := by decide +kernel
theorem dX5_start_62 : decode cX5_start 62 = .ok (.goto 18, 3) := by decide +kernel
theorem dX5_start_65 : decode cX5_start 65 = .ok (.iload_n 0, 1) := by decide +kernel
theorem dX5_start_66 : decode cX5_start 66 = .ok (.bipush 6, 2) := by decide +kernel
theorem dX5_start_68 : decode cX5_start 68 = .ok (.if_icmp .ne 9, 3) := by decide +kernel
theorem dX5_start_71 : decode cX5_start 71 = .ok (.ldc2_w 76, 3) := by decide +kernel
theorem dX5_start_74 : decode cX5_start 74 = .ok (.goto 6, 3) := by decide +kernel
theorem dX5_start_77 : decode cX5_start 77 = .ok (.ldc2_w 78, 3) := by decide +kernel
theorem dX5_start_80 : decode cX5_start 80 = .ok (.lreturn, 1) := by decide +kernel
theorem dX5_order_0 : decode cX5_order 0 = .ok (.iload_n 0, 1) := by decide +kernel
theorem dX5_order_1 : decode cX5_order 1 = .ok (.bipush 10, 2) := by decide +kernel
theorem dX5_order_3 : decode cX5_order 3 = .ok (.irem, 1) := by decide +kernel
theorem dX5_order_4 : decode cX5_order 4 = .ok (.tableswitch 88 0 8 #[52, 56, 60, 64, 68, 72, 76, 80, 84], 52) := by decide +kernel
theorem dX5_order_56 : decode cX5_order 56 = .ok (.ldc2_w 80, 3) := by decide +kernel
theorem dX5_order_59 : decode cX5_order 59 = .ok (.lreturn, 1) := by decide +kernel
theorem dX5_order_60 : decode cX5_order 60 = .ok (.ldc2_w 82, 3) := by decide +kernel
theorem dX5_order_63 : decode cX5_order 63 = .ok (.lreturn, 1) := by decide +kernel
theorem dX5_order_64 : decode cX5_order 64 = .ok (.ldc2_w 84, 3) := by decide +kernel
theorem dX5_order_67 : decode cX5_order 67 = .ok (.lreturn, 1) := by decide +kernel
theorem dX5_order_68 : decode cX5_order 68 = .ok (.ldc2_w 86, 3) := by decide +kernel
theorem dX5_order_71 : decode cX5_order 71 = .ok (.lreturn, 1) := by decide +kernel
theorem dX5_order_72 : decode cX5_order 72 = .ok (.ldc2_w 88, 3) := by decide +kernel
theorem dX5_order_75 : decode cX5_order 75 = .ok (.lreturn, 1) := by decide +kernel
theorem dX5_order_76 : decode cX5_order 76 = .ok (.ldc2_w 90, 3) := by decide +kernel
theorem dX5_order_79 : decode cX5_order 79 = .ok (.lreturn, 1) := by decide +kernel
theorem dX5_order_80 : decode cX5_order 80 = .ok (.ldc2_w 92, 3) := by decide +kernel
theorem dX5_order_83 : decode cX5_order 83 = .ok (.lreturn, 1) := by decide +kernel
theorem dX5_order_84 : decode cX5_order 84 = .ok (.ldc2_w 94, 3) := by decide +kernel
theorem dX5_order_87 : decode cX5_order 87 = .ok (.lreturn, 1) := by decide +kernel
theorem dX5_order_88 : decode cX5_order 88 = .ok (.ldc2_w 96, 3) := by decide +kernel
theorem dX5_order_91 : decode cX5_order 91 = .ok (.lreturn, 1) := by decide +kernel
theorem dX5_order_92 : decode cX5_order 92 = .ok (.ldc2_w 98, 3) := by decide +kernel
theorem dX5_order_95 : decode cX5_order 95 = .ok (.lreturn, 1) := by decide +kernel
theorem dX5_turned_0 : decode cX5_turned 0 = .ok (.lload_n 0, 1) := by decide +kernel
theorem dX5_turned_1 : decode cX5_turned 1 = .ok (.iload_n 2, 1) := by decide +kernel
theorem dX5_turned_2 : decode cX5_turned 2 = .ok (.lushr, 1) := by decide +kernel
theorem dX5_turned_3 : decode cX5_turned 3 = .ok (.lload_n 0, 1) := by decide +kernel
theorem dX5_turned_4 : decode cX5_turned 4 = .ok (.bipush 64, 2) := by decide +kernel
theorem dX5_turned_6 : decode cX5_turned 6 = .ok (.iload_n 2, 1) := by decide +kernel
theorem dX5_turned_7 : decode cX5_turned 7 = .ok (.isub, 1) := by decide +kernel
theorem dX5_turned_8 : decode cX5_turned 8 = .ok (.lshl, 1) := by decide +kernel
theorem dX5_turned_9 : decode cX5_turned 9 = .ok (.lor, 1) := by decide +kernel
theorem dX5_turned_10 : decode cX5_turned 10 = .ok (.lreturn, 1) := by decide +kernel
theorem dX5_mix_0 : decode cX5_mix 0 = .ok (.aload_n 0, 1) := by decide +kernel
theorem dX5_mix_1 : decode cX5_mix 1 = .ok (.getfield 26, 3) := by decide +kernel
theorem dX5_mix_4 : decode cX5_mix 4 = .ok (.iload_n 1, 1) := by decide +kernel
theorem dX5_mix_5 : decode cX5_mix 5 = .ok (.dup2, 1) := by decide +kernel
theorem dX5_mix_6 : decode cX5_mix 6 = .ok (.laload, 1) := by decide +kernel
theorem dX5_mix_7 : decode cX5_mix 7 = .ok (.aload_n 0, 1) := by decide +kernel
theorem dX5_mix_8 : decode cX5_mix 8 = .ok (.getfield 26, 3) := by decide +kernel
theorem dX5_mix_11 : decode cX5_mix 11 = .ok (.iload_n 2, 1) := by decide +kernel
theorem dX5_mix_12 : decode cX5_mix 12 = .ok (.laload, 1) := by decide +kernel
theorem dX5_mix_13 : decode cX5_mix 13 = .ok (.lload 5, 2) := by decide +kernel
theorem dX5_mix_15 : decode cX5_mix 15 = .ok (.ladd, 1) := by decide +kernel
theorem dX5_mix_16 : decode cX5_mix 16 = .ok (.ladd, 1) := by decide +kernel
theorem dX5_mix_17 : decode cX5_mix 17 = .ok (.lastore, 1) := by decide +kernel
theorem dX5_mix_18 : decode cX5_mix 18 = .ok (.aload_n 0, 1) := by decide +kernel
theorem dX5_mix_19 : decode cX5_mix 19 = .ok (.getfield 26, 3) := by decide +kernel
theorem dX5_mix_22 : decode cX5_mix 22 = .ok (.iload 4, 2) := by decide +kernel
theorem dX5_mix_24 : decode cX5_mix 24 = .ok (.aload_n 0, 1) := by decide +kernel
theorem dX5_mix_25 : decode cX5_mix 25 = .ok (.getfield 26, 3) := by decide +kernel
theorem dX5_mix_28 : decode cX5_mix 28 = .ok (.iload 4, 2) := by decide +kernel
theorem dX5_mix_30 : decode cX5_mix 30 = .ok (.laload, 1) := by decide +kernel
theorem dX5_mix_31 : decode cX5_mix 31 = .ok (.aload_n 0, 1) := by decide +kernel
theorem dX5_mix_32 : decode cX5_mix 32 = .ok (.getfield 26, 3) := by decide +kernel
theorem dX5_mix_35 : decode cX5_mix 35 = .ok (.iload_n 1, 1) := by decide +kernel
theorem dX5_mix_36 : decode cX5_mix 36 = .ok (.laload, 1) := by decide +kernel
theorem dX5_mix_37 : decode cX5_mix 37 = .ok (.lxor, 1) := by decide +kernel
theorem dX5_mix_38 : decode cX5_mix 38 = .ok (.bipush 32, 2) := by decide +kernel
theorem dX5_mix_40 : decode cX5_mix 40 = .ok (.invokestatic 100, 3) := by decide +kernel
theorem dX5_mix_43 : decode cX5_mix 43 = .ok (.lastore, 1) := by decide +kernel
theorem dX5_mix_44 : decode cX5_mix 44 = .ok (.aload_n 0, 1) := by decide +kernel
theorem dX5_mix_45 : decode cX5_mix 45 = .ok (.getfield 26, 3) := by decide +kernel
theorem dX5_mix_48 : decode cX5_mix 48 = .ok (.iload_n 3, 1) := by decide +kernel
theorem dX5_mix_49 : decode cX5_mix 49 = .ok (.dup2, 1) := by decide +kernel
theorem dX5_mix_50 : decode cX5_mix 50 = .ok (.laload, 1) := by decide +kernel
theorem dX5_mix_51 : decode cX5_mix 51 = .ok (.aload_n 0, 1) := by decide +kernel
theorem dX5_mix_52 : decode cX5_mix 52 = .ok (.getfield 26, 3) := by decide +kernel
theorem dX5_mix_55 : decode cX5_mix 55 = .ok (.iload 4, 2) := by decide +kernel
theorem dX5_mix_57 : decode cX5_mix 57 = .ok (.laload, 1) := by decide +kernel
theorem dX5_mix_58 : decode cX5_mix 58 = .ok (.ladd, 1) := by decide +kernel
theorem dX5_mix_59 : decode cX5_mix 59 = .ok (.lastore, 1) := by decide +kernel
theorem dX5_mix_60 : decode cX5_mix 60 = .ok (.aload_n 0, 1) := by decide +kernel
theorem dX5_mix_61 : decode cX5_mix 61 = .ok (.getfield 26, 3) := by decide +kernel
theorem dX5_mix_64 : decode cX5_mix 64 = .ok (.iload_n 2, 1) := by decide +kernel
theorem dX5_mix_65 : decode cX5_mix 65 = .ok (.aload_n 0, 1) := by decide +kernel
theorem dX5_mix_66 : decode cX5_mix 66 = .ok (.getfield 26, 3) := by decide +kernel
theorem dX5_mix_69 : decode cX5_mix 69 = .ok (.iload_n 2, 1) := by decide +kernel
theorem dX5_mix_70 : decode cX5_mix 70 = .ok (.laload, 1) := by decide +kernel
theorem dX5_mix_71 : decode cX5_mix 71 = .ok (.aload_n 0, 1) := by decide +kernel
theorem dX5_mix_72 : decode cX5_mix 72 = .ok (.getfield 26, 3) := by decide +kernel
theorem dX5_mix_75 : decode cX5_mix 75 = .ok (.iload_n 3, 1) := by decide +kernel
theorem dX5_mix_76 : decode cX5_mix 76 = .ok (.laload, 1) := by decide +kernel
theorem dX5_mix_77 : decode cX5_mix 77 = .ok (.lxor, 1) := by decide +kernel
theorem dX5_mix_78 : decode cX5_mix 78 = .ok (.bipush 24, 2) := by decide +kernel
theorem dX5_mix_80 : decode cX5_mix 80 = .ok (.invokestatic 100, 3) := by decide +kernel
theorem dX5_mix_83 : decode cX5_mix 83 = .ok (.lastore, 1) := by decide +kernel
theorem dX5_mix_84 : decode cX5_mix 84 = .ok (.aload_n 0, 1) := by decide +kernel
theorem dX5_mix_85 : decode cX5_mix 85 = .ok (.getfield 26, 3) := by decide +kernel
theorem dX5_mix_88 : decode cX5_mix 88 = .ok (.iload_n 1, 1) := by decide +kernel
theorem dX5_mix_89 : decode cX5_mix 89 = .ok (.dup2, 1) := by decide +kernel
theorem dX5_mix_90 : decode cX5_mix 90 = .ok (.laload, 1) := by decide +kernel
theorem dX5_mix_91 : decode cX5_mix 91 = .ok (.aload_n 0, 1) := by decide +kernel
theorem dX5_mix_92 : decode cX5_mix 92 = .ok (.getfield 26, 3) := by decide +kernel
theorem dX5_mix_95 : decode cX5_mix 95 = .ok (.iload_n 2, 1) := by decide +kernel
theorem dX5_mix_96 : decode cX5_mix 96 = .ok (.laload, 1) := by decide +kernel
theorem dX5_mix_97 : decode cX5_mix 97 = .ok (.lload 7, 2) := by decide +kernel
theorem dX5_mix_99 : decode cX5_mix 99 = .ok (.ladd, 1) := by decide +kernel
theorem dX5_mix_100 : decode cX5_mix 100 = .ok (.ladd, 1) := by decide +kernel
theorem dX5_mix_101 : decode cX5_mix 101 = .ok (.lastore, 1) := by decide +kernel
theorem dX5_mix_102 : decode cX5_mix 102 = .ok (.aload_n 0, 1) := by decide +kernel
theorem dX5_mix_103 : decode cX5_mix 103 = .ok (.getfield 26, 3) := by decide +kernel
theorem dX5_mix_106 : decode cX5_mix 106 = .ok (.iload 4, 2) := by decide +kernel
theorem dX5_mix_108 : decode cX5_mix 108 = .ok (.aload_n 0, 1) := by decide +kernel
theorem dX5_mix_109 : decode cX5_mix 109 = .ok (.getfield 26, 3) := by decide +kernel
theorem dX5_mix_112 : decode cX5_mix 112 = .ok (.iload 4, 2) := by decide +kernel
theorem dX5_mix_114 : decode cX5_mix 114 = .ok (.laload, 1) := by decide +kernel
theorem dX5_mix_115 : decode cX5_mix 115 = .ok (.aload_n 0, 1) := by decide +kernel
theorem dX5_mix_116 : decode cX5_mix 116 = .ok (.getfield 26, 3) := by decide +kernel
theorem dX5_mix_119 : decode cX5_mix 119 = .ok (.iload_n 1, 1) := by decide +kernel
theorem dX5_mix_120 : decode cX5_mix 120 = .ok (.laload, 1) := by decide +kernel
theorem dX5_mix_121 : decode cX5_mix 121 = .ok (.lxor, 1) := by decide +kernel
theorem dX5_mix_122 : decode cX5_mix 122 = .ok (.bipush 16, 2) := by decide +kernel
theorem dX5_mix_124 : decode cX5_mix 124 = .ok (.invokestatic 100, 3) := by decide +kernel
theorem dX5_mix_127 : decode cX5_mix 127 = .ok (.lastore, 1) := by decide +kernel
theorem dX5_mix_128 : decode cX5_mix 128 = .ok (.aload_n 0, 1) := by decide +kernel
theorem dX5_mix_129 : decode cX5_mix 129 = .ok (.getfield 26, 3) := by decide +kernel
theorem dX5_mix_132 : decode cX5_mix 132 = .ok (.iload_n 3, 1) := by decide +kernel
theorem dX5_mix_133 : decode cX5_mix 133 = .ok (.dup2, 1) := by decide +kernel
theorem dX5_mix_134 : decode cX5_mix 134 = .ok (.laload, 1) := by decide +kernel
theorem dX5_mix_135 : decode cX5_mix 135 = .ok (.aload_n 0, 1) := by decide +kernel
theorem dX5_mix_136 : decode cX5_mix 136 = .ok (.getfield 26, 3) := by decide +kernel
theorem dX5_mix_139 : decode cX5_mix 139 = .ok (.iload 4, 2) := by decide +kernel
theorem dX5_mix_141 : decode cX5_mix 141 = .ok (.laload, 1) := by decide +kernel
theorem dX5_mix_142 : decode cX5_mix 142 = .ok (.ladd, 1) := by decide +kernel
theorem dX5_mix_143 : decode cX5_mix 143 = .ok (.lastore, 1) := by decide +kernel
theorem dX5_mix_144 : decode cX5_mix 144 = .ok (.aload_n 0, 1) := by decide +kernel
theorem dX5_mix_145 : decode cX5_mix 145 = .ok (.getfield 26, 3) := by decide +kernel
theorem dX5_mix_148 : decode cX5_mix 148 = .ok (.iload_n 2, 1) := by decide +kernel
theorem dX5_mix_149 : decode cX5_mix 149 = .ok (.aload_n 0, 1) := by decide +kernel
theorem dX5_mix_150 : decode cX5_mix 150 = .ok (.getfield 26, 3) := by decide +kernel
theorem dX5_mix_153 : decode cX5_mix 153 = .ok (.iload_n 2, 1) := by decide +kernel
theorem dX5_mix_154 : decode cX5_mix 154 = .ok (.laload, 1) := by decide +kernel
theorem dX5_mix_155 : decode cX5_mix 155 = .ok (.aload_n 0, 1) := by decide +kernel
theorem dX5_mix_156 : decode cX5_mix 156 = .ok (.getfield 26, 3) := by decide +kernel
theorem dX5_mix_159 : decode cX5_mix 159 = .ok (.iload_n 3, 1) := by decide +kernel
theorem dX5_mix_160 : decode cX5_mix 160 = .ok (.laload, 1) := by decide +kernel
theorem dX5_mix_161 : decode cX5_mix 161 = .ok (.lxor, 1) := by decide +kernel
theorem dX5_mix_162 : decode cX5_mix 162 = .ok (.bipush 63, 2) := by decide +kernel
theorem dX5_mix_164 : decode cX5_mix 164 = .ok (.invokestatic 100, 3) := by decide +kernel
theorem dX5_mix_167 : decode cX5_mix 167 = .ok (.lastore, 1) := by decide +kernel
theorem dX5_mix_168 : decode cX5_mix 168 = .ok (.return_, 1) := by decide +kernel
theorem dX5_picked_0 : decode cX5_picked 0 = .ok (.aload_n 0, 1) := by decide +kernel
theorem dX5_picked_1 : decode cX5_picked 1 = .ok (.getfield 29, 3) := by decide +kernel
theorem dX5_picked_4 : decode cX5_picked 4 = .ok (.lload_n 1, 1) := by decide +kernel
theorem dX5_picked_5 : decode cX5_picked 5 = .ok (.iconst 4, 1) := by decide +kernel
theorem dX5_picked_6 : decode cX5_picked 6 = .ok (.iload_n 3, 1) := by decide +kernel
theorem dX5_picked_7 : decode cX5_picked 7 = .ok (.imul, 1) := by decide +kernel
theorem dX5_picked_8 : decode cX5_picked 8 = .ok (.lshr, 1) := by decide +kernel
theorem dX5_picked_9 : decode cX5_picked 9 = .ok (.ldc2_w 104, 3) := by decide +kernel
theorem dX5_picked_12 : decode cX5_picked 12 = .ok (.land, 1) := by decide +kernel
theorem dX5_picked_13 : decode cX5_picked 13 = .ok (.l2i, 1) := by decide +kernel
theorem dX5_picked_14 : decode cX5_picked 14 = .ok (.laload, 1) := by decide +kernel
theorem dX5_picked_15 : decode cX5_picked 15 = .ok (.lreturn, 1) := by decide +kernel
theorem dX5_byteAt_0 : decode cX5_byteAt 0 = .ok (.iload_n 1, 1) := by decide +kernel
theorem dX5_byteAt_1 : decode cX5_byteAt 1 = .ok (.istore_n 2, 1) := by decide +kernel
theorem dX5_byteAt_2 : decode cX5_byteAt 2 = .ok (.aload_n 0, 1) := by decide +kernel
theorem dX5_byteAt_3 : decode cX5_byteAt 3 = .ok (.getfield 106, 3) := by decide +kernel
theorem dX5_byteAt_6 : decode cX5_byteAt 6 = .ok (.ifCond .le 32, 3) := by decide +kernel
theorem dX5_byteAt_9 : decode cX5_byteAt 9 = .ok (.iload_n 2, 1) := by decide +kernel
theorem dX5_byteAt_10 : decode cX5_byteAt 10 = .ok (.sipush 128, 3) := by decide +kernel
theorem dX5_byteAt_13 : decode cX5_byteAt 13 = .ok (.if_icmp .ge 22, 3) := by decide +kernel
theorem dX5_byteAt_16 : decode cX5_byteAt 16 = .ok (.iload_n 2, 1) := by decide +kernel
theorem dX5_byteAt_17 : decode cX5_byteAt 17 = .ok (.aload_n 0, 1) := by decide +kernel
theorem dX5_byteAt_18 : decode cX5_byteAt 18 = .ok (.getfield 106, 3) := by decide +kernel
theorem dX5_byteAt_21 : decode cX5_byteAt 21 = .ok (.if_icmp .ge 12, 3) := by decide +kernel
theorem dX5_byteAt_24 : decode cX5_byteAt 24 = .ok (.aload_n 0, 1) := by decide +kernel
theorem dX5_byteAt_25 : decode cX5_byteAt 25 = .ok (.getfield 16, 3) := by decide +kernel
theorem dX5_byteAt_28 : decode cX5_byteAt 28 = .ok (.iload_n 2, 1) := by decide +kernel
theorem dX5_byteAt_29 : decode cX5_byteAt 29 = .ok (.iaload, 1) := by decide +kernel
theorem dX5_byteAt_30 : decode cX5_byteAt 30 = .ok (.goto 4, 3) := by decide +kernel
theorem dX5_byteAt_33 : decode cX5_byteAt 33 = .ok (.iconst 0, 1) := by decide +kernel
theorem dX5_byteAt_34 : decode cX5_byteAt 34 = .ok (.ireturn, 1) := by decide +kernel
theorem dX5_byteAt_35 : decode cX5_byteAt 35 = .ok (.iinc 2 (-128), 3) := by decide +kernel
theorem dX5_byteAt_38 : decode cX5_byteAt 38 = .ok (.iload_n 2, 1) := by decide +kernel
theorem dX5_byteAt_39 : decode cX5_byteAt 39 = .ok (.aload_n 0, 1) := by decide +kernel
theorem dX5_byteAt_40 : decode cX5_byteAt 40 = .ok (.getfield 109, 3) := by decide +kernel
theorem dX5_byteAt_43 : decode cX5_byteAt 43 = .ok (.if_icmp .ge 12, 3) := by decide +kernel
theorem dX5_byteAt_46 : decode cX5_byteAt 46 = .ok (.aload_n 0, 1) := by decide +kernel
theorem dX5_byteAt_47 : decode cX5_byteAt 47 = .ok (.getfield 19, 3) := by decide +kernel
theorem dX5_byteAt_50 : decode cX5_byteAt 50 = .ok (.iload_n 2, 1) := by decide +kernel
theorem dX5_byteAt_51 : decode cX5_byteAt 51 = .ok (.iaload, 1) := by decide +kernel
theorem dX5_byteAt_52 : decode cX5_byteAt 52 = .ok (.goto 4, 3) := by decide +kernel
theorem dX5_byteAt_55 : decode cX5_byteAt 55 = .ok (.iconst 0, 1) := by decide +kernel
theorem dX5_byteAt_56 : decode cX5_byteAt 56 = .ok (.ireturn, 1) := by decide +kernel
