theorem dX0_init_0 : decode cX0_init 0 = .ok (.aload_n 0, 1) := by decide +kernel
theorem dX0_init_1 : decode cX0_init 1 = .ok (.invokespecial 3, 3) := by decide +kernel
theorem dX0_init_4 : decode cX0_init 4 = .ok (.aload_n 0, 1) := by decide +kernel
theorem dX0_init_5 : decode cX0_init 5 = .ok (.iload_n 1, 1) := by decide +kernel
theorem dX0_init_6 : decode cX0_init 6 = .ok (.iconst 0, 1) := by decide +kernel
theorem dX0_init_7 : decode cX0_init 7 = .ok (.invokestatic 9, 3) := by decide +kernel
theorem dX0_init_10 : decode cX0_init 10 = .ok (.newarray .byte, 2) := by decide +kernel
theorem dX0_init_12 : decode cX0_init 12 = .ok (.putfield 15, 3) := by decide +kernel
theorem dX0_init_15 : decode cX0_init 15 = .ok (.return_, 1) := by decide +kernel
theorem dX0_empty_0 : decode cX0_empty 0 = .ok (.aload_n 0, 1) := by decide +kernel
theorem dX0_empty_1 : decode cX0_empty 1 = .ok (.iconst 0, 1) := by decide +kernel
theorem dX0_empty_2 : decode cX0_empty 2 = .ok (.putfield 21, 3) := by decide +kernel
theorem dX0_empty_5 : decode cX0_empty 5 = .ok (.return_, 1) := by decide +kernel
theorem dX0_byteAt_0 : decode cX0_byteAt 0 = .ok (.iload_n 1, 1) := by decide +kernel
theorem dX0_byteAt_1 : decode cX0_byteAt 1 = .ok (.ifCond .lt 24, 3) := by decide +kernel
theorem dX0_byteAt_4 : decode cX0_byteAt 4 = .ok (.iload_n 1, 1) := by decide +kernel
theorem dX0_byteAt_5 : decode cX0_byteAt 5 = .ok (.aload_n 0, 1) := by decide +kernel
theorem dX0_byteAt_6 : decode cX0_byteAt 6 = .ok (.getfield 21, 3) := by decide +kernel
theorem dX0_byteAt_9 : decode cX0_byteAt 9 = .ok (.if_icmp .ge 16, 3) := by decide +kernel
theorem dX0_byteAt_12 : decode cX0_byteAt 12 = .ok (.aload_n 0, 1) := by decide +kernel
theorem dX0_byteAt_13 : decode cX0_byteAt 13 = .ok (.getfield 15, 3) := by decide +kernel
theorem dX0_byteAt_16 : decode cX0_byteAt 16 = .ok (.iload_n 1, 1) := by decide +kernel
theorem dX0_byteAt_17 : decode cX0_byteAt 17 = .ok (.baload, 1) := by decide +kernel
theorem dX0_byteAt_18 : decode cX0_byteAt 18 = .ok (.sipush 255, 3) := by decide +kernel
theorem dX0_byteAt_21 : decode cX0_byteAt 21 = .ok (.iand, 1) := by decide +kernel
theorem dX0_byteAt_22 : decode cX0_byteAt 22 = .ok (.goto 4, 3) := by decide +kernel
theorem dX0_byteAt_25 : decode cX0_byteAt 25 = .ok (.iconst (-1), 1) := by decide +kernel
theorem dX0_byteAt_26 : decode cX0_byteAt 26 = .ok (.ireturn, 1) := by decide +kernel
theorem dX0_wordAt_0 : decode cX0_wordAt 0 = .ok (.lconst 0, 1) := by decide +kernel
theorem dX0_wordAt_1 : decode cX0_wordAt 1 = .ok (.lstore_n 2, 1) := by decide +kernel
theorem dX0_wordAt_2 : decode cX0_wordAt 2 = .ok (.iload_n 1, 1) := by decide +kernel
theorem dX0_wordAt_3 : decode cX0_wordAt 3 = .ok (.bipush 8, 2) := by decide +kernel
theorem dX0_wordAt_5 : decode cX0_wordAt 5 = .ok (.iadd, 1) := by decide +kernel
theorem dX0_wordAt_6 : decode cX0_wordAt 6 = .ok (.aload_n 0, 1) := by decide +kernel
theorem dX0_wordAt_7 : decode cX0_wordAt 7 = .ok (.getfield 21, 3) := by decide +kernel
theorem dX0_wordAt_10 : decode cX0_wordAt 10 = .ok (.invokestatic 25, 3) := by decide +kernel
theorem dX0_wordAt_13 : decode cX0_wordAt 13 = .ok (.istore 4, 2) := by decide +kernel
theorem dX0_wordAt_15 : decode cX0_wordAt 15 = .ok (.iload 4, 2) := by decide +kernel
theorem dX0_wordAt_17 : decode cX0_wordAt 17 = .ok (.iconst 1, 1) := by decide +kernel
theorem dX0_wordAt_18 : decode cX0_wordAt 18 = .ok (.isub, 1) := by decide +kernel
theorem dX0_wordAt_19 : decode cX0_wordAt 19 = .ok (.istore 5, 2) := by decide +kernel
theorem dX0_wordAt_21 : decode cX0_wordAt 21 = .ok (.iload 5, 2) := by decide +kernel
theorem dX0_wordAt_23 : decode cX0_wordAt 23 = .ok (.ifCond .lt 33, 3) := by decide +kernel
theorem dX0_wordAt_26 : decode cX0_wordAt 26 = .ok (.iload 5, 2) := by decide +kernel
theorem dX0_wordAt_28 : decode cX0_wordAt 28 = .ok (.iload_n 1, 1) := by decide +kernel
theorem dX0_wordAt_29 : decode cX0_wordAt 29 = .ok (.if_icmp .lt 27, 3) := by decide +kernel
theorem dX0_wordAt_32 : decode cX0_wordAt 32 = .ok (.lload_n 2, 1) := by decide +kernel
theorem dX0_wordAt_33 : decode cX0_wordAt 33 = .ok (.bipush 8, 2) := by decide +kernel
theorem dX0_wordAt_35 : decode cX0_wordAt 35 = .ok (.lshl, 1) := by decide +kernel
theorem dX0_wordAt_36 : decode cX0_wordAt 36 = .ok (.aload_n 0, 1) := by decide +kernel
theorem dX0_wordAt_37 : decode cX0_wordAt 37 = .ok (.getfield 15, 3) := by decide +kernel
theorem dX0_wordAt_40 : decode cX0_wordAt 40 = .ok (.iload 5, 2) := by decide +kernel
theorem dX0_wordAt_42 : decode cX0_wordAt 42 = .ok (.baload, 1) := by decide +kernel
theorem dX0_wordAt_43 : decode cX0_wordAt 43 = .ok (.sipush 255, 3) := by decide +kernel
theorem dX0_wordAt_46 : decode cX0_wordAt 46 = .ok (.iand, 1) := by decide +kernel
theorem dX0_wordAt_47 : decode cX0_wordAt 47 = .ok (.i2l, 1) := by decide +kernel
theorem dX0_wordAt_48 : decode cX0_wordAt 48 = .ok (.lor, 1) := by decide +kernel
theorem dX0_wordAt_49 : decode cX0_wordAt 49 = .ok (.lstore_n 2, 1) := by decide +kernel
theorem dX0_wordAt_50 : decode cX0_wordAt 50 = .ok (.iinc 5 (-1), 3) := by decide +kernel
theorem dX0_wordAt_53 : decode cX0_wordAt 53 = .ok (.goto (-32), 3) := by decide +kernel
theorem dX0_wordAt_56 : decode cX0_wordAt 56 = .ok (.lload_n 2, 1) := by decide +kernel
theorem dX0_wordAt_57 : decode cX0_wordAt 57 = .ok (.lreturn, 1) := by decide +kernel
theorem dX0_put_0 : decode cX0_put 0 = .ok (.aload_n 0, 1) := by decide +kernel
theorem dX0_put_1 : decode cX0_put 1 = .ok (.getfield 21, 3) := by decide +kernel
theorem dX0_put_4 : decode cX0_put 4 = .ok (.aload_n 0, 1) := by decide +kernel
theorem dX0_put_5 : decode cX0_put 5 = .ok (.getfield 15, 3) := by decide +kernel
theorem dX0_put_8 : decode cX0_put 8 = .ok (.arraylength, 1) := by decide +kernel
theorem dX0_put_9 : decode cX0_put 9 = .ok (.if_icmp .ge 24, 3) := by decide +kernel
theorem dX0_put_12 : decode cX0_put 12 = .ok (.aload_n 0, 1) := by decide +kernel
theorem dX0_put_13 : decode cX0_put 13 = .ok (.getfield 15, 3) := by decide +kernel
theorem dX0_put_16 : decode cX0_put 16 = .ok (.aload_n 0, 1) := by decide +kernel
theorem dX0_put_17 : decode cX0_put 17 = .ok (.getfield 21, 3) := by decide +kernel
theorem dX0_put_20 : decode cX0_put 20 = .ok (.iload_n 1, 1) := by decide +kernel
theorem dX0_put_21 : decode cX0_put 21 = .ok (.i2b, 1) := by decide +kernel
theorem dX0_put_22 : decode cX0_put 22 = .ok (.bastore, 1) := by decide +kernel
theorem dX0_put_23 : decode cX0_put 23 = .ok (.aload_n 0, 1) := by decide +kernel
theorem dX0_put_24 : decode cX0_put 24 = .ok (.dup, 1) := by decide +kernel
theorem dX0_put_25 : decode cX0_put 25 = .ok (.getfield 21, 3) := by decide +kernel
theorem dX0_put_28 : decode cX0_put 28 = .ok (.iconst 1, 1) := by decide +kernel
theorem dX0_put_29 : decode cX0_put 29 = .ok (.iadd, 1) := by decide +kernel
theorem dX0_put_30 : decode cX0_put 30 = .ok (.putfield 21, 3) := by decide +kernel
theorem dX0_put_33 : decode cX0_put 33 = .ok (.return_, 1) := by decide +kernel
theorem dX0_putNumber_0 : decode cX0_putNumber 0 = .ok (.iconst 0, 1) := by decide +kernel
theorem dX0_putNumber_1 : decode cX0_putNumber 1 = .ok (.istore 4, 2) := by decide +kernel
theorem dX0_putNumber_3 : decode cX0_putNumber 3 = .ok (.iload 4, 2) := by decide +kernel
theorem dX0_putNumber_5 : decode cX0_putNumber 5 = .ok (.iload_n 3, 1) := by decide +kernel
theorem dX0_putNumber_6 : decode cX0_putNumber 6 = .ok (.if_icmp .ge 21, 3) := by decide +kernel
theorem dX0_putNumber_9 : decode cX0_putNumber 9 = .ok (.aload_n 0, 1) := by decide +kernel
theorem dX0_putNumber_10 : decode cX0_putNumber 10 = .ok (.lload_n 1, 1) := by decide +kernel
theorem dX0_putNumber_11 : decode cX0_putNumber 11 = .ok (.bipush 8, 2) := by decide +kernel
theorem dX0_putNumber_13 : decode cX0_putNumber 13 = .ok (.iload 4, 2) := by decide +kernel
theorem dX0_putNumber_15 : decode cX0_putNumber 15 = .ok (.imul, 1) := by decide +kernel
theorem dX0_putNumber_16 : decode cX0_putNumber 16 = .ok (.lushr, 1) := by decide +kernel
theorem dX0_putNumber_17 : decode cX0_putNumber 17 = .ok (.l2i, 1) := by decide +kernel
theorem dX0_putNumber_18 : decode cX0_putNumber 18 = .ok (.invokevirtual 28, 3) := by decide +kernel
theorem dX0_putNumber_21 : decode cX0_putNumber 21 = .ok (.iinc 4 1, 3) := by decide +kernel
theorem dX0_putNumber_24 : decode cX0_putNumber 24 = .ok (.goto (-21), 3) := by decide +kernel
theorem dX0_putNumber_27 : decode cX0_putNumber 27 = .ok (.return_, 1) := by decide +kernel
theorem dX0_putAll_0 : decode cX0_putAll 0 = .ok (.iconst 0, 1) := by decide +kernel
theorem dX0_putAll_1 : decode cX0_putAll 1 = .ok (.istore_n 2, 1) := by decide +kernel
theorem dX0_putAll_2 : decode cX0_putAll 2 = .ok (.iload_n 2, 1) := by decide +kernel
theorem dX0_putAll_3 : decode cX0_putAll 3 = .ok (.aload_n 1, 1) := by decide +kernel
theorem dX0_putAll_4 : decode cX0_putAll 4 = .ok (.getfield 21, 3) := by decide +kernel
theorem dX0_putAll_7 : decode cX0_putAll 7 = .ok (.if_icmp .ge 18, 3) := by decide +kernel
theorem dX0_putAll_10 : decode cX0_putAll 10 = .ok (.aload_n 0, 1) := by decide +kernel
theorem dX0_putAll_11 : decode cX0_putAll 11 = .ok (.aload_n 1, 1) := by decide +kernel
theorem dX0_putAll_12 : decode cX0_putAll 12 = .ok (.iload_n 2, 1) := by decide +kernel
theorem dX0_putAll_13 : decode cX0_putAll 13 = .ok (.invokevirtual 32, 3) := by decide +kernel
theorem dX0_putAll_16 : decode cX0_putAll 16 = .ok (.invokevirtual 28, 3) := by decide +kernel
theorem dX0_putAll_19 : decode cX0_putAll 19 = .ok (.iinc 2 1, 3) := by decide +kernel
theorem dX0_putAll_22 : decode cX0_putAll 22 = .ok (.goto (-20), 3) := by decide +kernel
theorem dX0_putAll_25 : decode cX0_putAll 25 = .ok (.return_, 1) := by decide +kernel
theorem dX0_become_0 : decode cX0_become 0 = .ok (.aload_n 0, 1) := by decide +kernel
theorem dX0_become_1 : decode cX0_become 1 = .ok (.invokevirtual 36, 3) := by decide +kernel
theorem dX0_become_4 : decode cX0_become 4 = .ok (.aload_n 0, 1) := by decide +kernel
theorem dX0_become_5 : decode cX0_become 5 = .ok (.aload_n 1, 1) := by decide +kernel
theorem dX0_become_6 : decode cX0_become 6 = .ok (.invokevirtual 39, 3) := by decide +kernel
theorem dX0_become_9 : decode cX0_become 9 = .ok (.return_, 1) := by decide +kernel
theorem dX1_init_0 : decode cX1_init 0 = .ok (.aload_n 0, 1) := by decide +kernel
theorem dX1_init_1 : decode cX1_init 1 = .ok (.invokespecial 3, 3) := by decide +kernel
theorem dX1_init_4 : decode cX1_init 4 = .ok (.aload_n 0, 1) := by decide +kernel
theorem dX1_init_5 : decode cX1_init 5 = .ok (.sipush 128, 3) := by decide +kernel
theorem dX1_init_8 : decode cX1_init 8 = .ok (.sipush 128, 3) := by decide +kernel
theorem dX1_init_11 : decode cX1_init 11 = .ok (.multianewarray 9 2, 4) := by decide +kernel
theorem dX1_init_15 : decode cX1_init 15 = .ok (.putfield 11, 3) := by decide +kernel
theorem dX1_init_18 : decode cX1_init 18 = .ok (.aload_n 0, 1) := by decide +kernel
theorem dX1_init_19 : decode cX1_init 19 = .ok (.sipush 128, 3) := by decide +kernel
theorem dX1_init_22 : decode cX1_init 22 = .ok (.newarray .long, 2) := by decide +kernel
theorem dX1_init_24 : decode cX1_init 24 = .ok (.putfield 16, 3) := by decide +kernel
theorem dX1_init_27 : decode cX1_init 27 = .ok (.aload_n 0, 1) := by decide +kernel
theorem dX1_init_28 : decode cX1_init 28 = .ok (.sipush 128, 3) := by decide +kernel
theorem dX1_init_31 : decode cX1_init 31 = .ok (.newarray .long, 2) := by decide +kernel
theorem dX1_init_33 : decode cX1_init 33 = .ok (.putfield 20, 3) := by decide +kernel
theorem dX1_init_36 : decode cX1_init 36 = .ok (.aload_n 0, 1) := by decide +kernel
theorem dX1_init_37 : decode cX1_init 37 = .ok (.new 23, 3) := by decide +kernel
theorem dX1_init_40 : decode cX1_init 40 = .ok (.dup, 1) := by decide +kernel
theorem dX1_init_41 : decode cX1_init 41 = .ok (.invokespecial 25, 3) := by decide +kernel
theorem dX1_init_44 : decode cX1_init 44 = .ok (.putfield 26, 3) := by decide +kernel
theorem dX1_init_47 : decode cX1_init 47 = .ok (.return_, 1) := by decide +kernel
theorem dX1_isPossible_0 : decode cX1_isPossible 0 = .ok (.iload_n 0, 1) := by decide +kernel
theorem dX1_isPossible_1 : decode cX1_isPossible 1 = .ok (.ifCond .lt 61, 3) := by decide +kernel
theorem dX1_isPossible_4 : decode cX1_isPossible 4 = .ok (.iload_n 0, 1) := by decide +kernel
theorem dX1_isPossible_5 : decode cX1_isPossible 5 = .ok (.iconst 2, 1) := by decide +kernel
theorem dX1_isPossible_6 : decode cX1_isPossible 6 = .ok (.if_icmp .gt 56, 3) := by decide +kernel
theorem dX1_isPossible_9 : decode cX1_isPossible 9 = .ok (.iload_n 1, 1) := by decide +kernel
theorem dX1_isPossible_10 : decode cX1_isPossible 10 = .ok (.iconst 1, 1) := by decide +kernel
theorem dX1_isPossible_11 : decode cX1_isPossible 11 = .ok (.if_icmp .lt 51, 3) := by decide +kernel
theorem dX1_isPossible_14 : decode cX1_isPossible 14 = .ok (.iload_n 1, 1) := by decide +kernel
theorem dX1_isPossible_15 : decode cX1_isPossible 15 = .ok (.iconst 4, 1) := by decide +kernel
theorem dX1_isPossible_16 : decode cX1_isPossible 16 = .ok (.if_icmp .gt 46, 3) := by decide +kernel
theorem dX1_isPossible_19 : decode cX1_isPossible 19 = .ok (.iload_n 2, 1) := by decide +kernel
theorem dX1_isPossible_20 : decode cX1_isPossible 20 = .ok (.iconst 1, 1) := by decide +kernel
theorem dX1_isPossible_21 : decode cX1_isPossible 21 = .ok (.if_icmp .lt 41, 3) := by decide +kernel
theorem dX1_isPossible_24 : decode cX1_isPossible 24 = .ok (.iload_n 2, 1) := by decide +kernel
theorem dX1_isPossible_25 : decode cX1_isPossible 25 = .ok (.iconst 5, 1) := by decide +kernel
theorem dX1_isPossible_26 : decode cX1_isPossible 26 = .ok (.if_icmp .gt 36, 3) := by decide +kernel
theorem dX1_isPossible_29 : decode cX1_isPossible 29 = .ok (.iload_n 3, 1) := by decide +kernel
theorem dX1_isPossible_30 : decode cX1_isPossible 30 = .ok (.bipush 8, 2) := by decide +kernel
theorem dX1_isPossible_32 : decode cX1_isPossible 32 = .ok (.iload_n 1, 1) := by decide +kernel
theorem dX1_isPossible_33 : decode cX1_isPossible 33 = .ok (.imul, 1) := by decide +kernel
theorem dX1_isPossible_34 : decode cX1_isPossible 34 = .ok (.if_icmp .lt 28, 3) := by decide +kernel
theorem dX1_isPossible_37 : decode cX1_isPossible 37 = .ok (.iload_n 3, 1) := by decide +kernel
theorem dX1_isPossible_38 : decode cX1_isPossible 38 = .ok (.sipush 128, 3) := by decide +kernel
theorem dX1_isPossible_41 : decode cX1_isPossible 41 = .ok (.if_icmp .gt 21, 3) := by decide +kernel
theorem dX1_isPossible_44 : decode cX1_isPossible 44 = .ok (.iload 4, 2) := by decide +kernel
theorem dX1_isPossible_46 : decode cX1_isPossible 46 = .ok (.iconst 4, 1) := by decide +kernel
theorem dX1_isPossible_47 : decode cX1_isPossible 47 = .ok (.if_icmp .lt 15, 3) := by decide +kernel
theorem dX1_isPossible_50 : decode cX1_isPossible 50 = .ok (.iload 4, 2) := by decide +kernel
theorem dX1_isPossible_52 : decode cX1_isPossible 52 = .ok (.sipush 128, 3) := by decide +kernel
theorem dX1_isPossible_55 : decode cX1_isPossible 55 = .ok (.if_icmp .gt 7, 3) := by decide +kernel
theorem dX1_isPossible_58 : decode cX1_isPossible 58 = .ok (.iconst 1, 1) := by decide +kernel
theorem dX1_isPossible_59 : decode cX1_isPossible 59 = .ok (.goto 4, 3) := by decide +kernel
theorem dX1_isPossible_62 : decode cX1_isPossible 62 = .ok (.iconst 0, 1) := by decide +kernel
theorem dX1_isPossible_63 : decode cX1_isPossible 63 = .ok (.ireturn, 1) := by decide +kernel
theorem dX1_restart_0 : decode cX1_restart 0 = .ok (.iload_n 1, 1) := by decide +kernel
theorem dX1_restart_1 : decode cX1_restart 1 = .ok (.iload_n 2, 1) := by decide +kernel
theorem dX1_restart_2 : decode cX1_restart 2 = .ok (.iload_n 3, 1) := by decide +kernel
theorem dX1_restart_3 : decode cX1_restart 3 = .ok (.iload 4, 2) := by decide +kernel
theorem dX1_restart_5 : decode cX1_restart 5 = .ok (.iload 5, 2) := by decide +kernel
theorem dX1_restart_7 : decode cX1_restart 7 = .ok (.invokestatic 30, 3) := by decide +kernel
theorem dX1_restart_10 : decode cX1_restart 10 = .ok (.ifCond .ne 4, 3) := by decide +kernel
theorem dX1_restart_13 : decode cX1_restart 13 = .ok (.return_, 1) := by decide +kernel
theorem dX1_restart_14 : decode cX1_restart 14 = .ok (.aload_n 0, 1) := by decide +kernel
theorem dX1_restart_15 : decode cX1_restart 15 = .ok (.iload_n 1, 1) := by decide +kernel
theorem dX1_restart_16 : decode cX1_restart 16 = .ok (.putfield 34, 3) := by decide +kernel
theorem dX1_restart_19 : decode cX1_restart 19 = .ok (.aload_n 0, 1) := by decide +kernel
theorem dX1_restart_20 : decode cX1_restart 20 = .ok (.iload_n 2, 1) := by decide +kernel
theorem dX1_restart_21 : decode cX1_restart 21 = .ok (.putfield 38, 3) := by decide +kernel
theorem dX1_restart_24 : decode cX1_restart 24 = .ok (.aload_n 0, 1) := by decide +kernel
theorem dX1_restart_25 : decode cX1_restart 25 = .ok (.iload_n 3, 1) := by decide +kernel
theorem dX1_restart_26 : decode cX1_restart 26 = .ok (.putfield 41, 3) := by decide +kernel
theorem dX1_restart_29 : decode cX1_restart 29 = .ok (.aload_n 0, 1) := by decide +kernel
theorem dX1_restart_30 : decode cX1_restart 30 = .ok (.iload 5, 2) := by decide +kernel
theorem dX1_restart_32 : decode cX1_restart 32 = .ok (.putfield 44, 3) := by decide +kernel
theorem dX1_restart_35 : decode cX1_restart 35 = .ok (.aload_n 0, 1) := by decide +kernel
theorem dX1_restart_36 : decode cX1_restart 36 = .ok (.iload 4, 2) := by decide +kernel
theorem dX1_restart_38 : decode cX1_restart 38 = .ok (.iconst 4, 1) := by decide +kernel
theorem dX1_restart_39 : decode cX1_restart 39 = .ok (.iload_n 2, 1) := by decide +kernel
theorem dX1_restart_40 : decode cX1_restart 40 = .ok (.imul, 1) := by decide +kernel
theorem dX1_restart_41 : decode cX1_restart 41 = .ok (.idiv, 1) := by decide +kernel
theorem dX1_restart_42 : decode cX1_restart 42 = .ok (.putfield 47, 3) := by decide +kernel
theorem dX1_restart_45 : decode cX1_restart 45 = .ok (.aload_n 0, 1) := by decide +kernel
theorem dX1_restart_46 : decode cX1_restart 46 = .ok (.iconst 4, 1) := by decide +kernel
theorem dX1_restart_47 : decode cX1_restart 47 = .ok (.aload_n 0, 1) := by decide +kernel
theorem dX1_restart_48 : decode cX1_restart 48 = .ok (.getfield 47, 3) := by decide +kernel
theorem dX1_restart_51 : decode cX1_restart 51 = .ok (.imul, 1) := by decide +kernel
theorem dX1_restart_52 : decode cX1_restart 52 = .ok (.putfield 50, 3) := by decide +kernel
theorem dX1_restart_55 : decode cX1_restart 55 = .ok (.aload_n 0, 1) := by decide +kernel
theorem dX1_restart_56 : decode cX1_restart 56 = .ok (.iconst 0, 1) := by decide +kernel
theorem dX1_restart_57 : decode cX1_restart 57 = .ok (.putfield 53, 3) := by decide +kernel
theorem dX1_restart_60 : decode cX1_restart 60 = .ok (.iconst 0, 1) := by decide +kernel
theorem dX1_restart_61 : decode cX1_restart 61 = .ok (.istore 6, 2) := by decide +kernel
theorem dX1_restart_63 : decode cX1_restart 63 = .ok (.iload 6, 2) := by decide +kernel
theorem dX1_restart_65 : decode cX1_restart 65 = .ok (.sipush 128, 3) := by decide +kernel
theorem dX1_restart_68 : decode cX1_restart 68 = .ok (.if_icmp .ge 37, 3) := by decide +kernel
theorem dX1_restart_71 : decode cX1_restart 71 = .ok (.iconst 0, 1) := by decide +kernel
theorem dX1_restart_72 : decode cX1_restart 72 = .ok (.istore 7, 2) := by decide +kernel
theorem dX1_restart_74 : decode cX1_restart 74 = .ok (.iload 7, 2) := by decide +kernel
theorem dX1_restart_76 : decode cX1_restart 76 = .ok (.sipush 128, 3) := by decide +kernel
theorem dX1_restart_79 : decode cX1_restart 79 = .ok (.if_icmp .ge 20, 3) := by decide +kernel
theorem dX1_restart_82 : decode cX1_restart 82 = .ok (.aload_n 0, 1) := by decide +kernel
theorem dX1_restart_83 : decode cX1_restart 83 = .ok (.getfield 11, 3) := by decide +kernel
theorem dX1_restart_86 : decode cX1_restart 86 = .ok (.iload 6, 2) := by decide +kernel
theorem dX1_restart_88 : decode cX1_restart 88 = .ok (.aaload, 1) := by decide +kernel
theorem dX1_restart_89 : decode cX1_restart 89 = .ok (.iload 7, 2) := by decide +kernel
theorem dX1_restart_91 : decode cX1_restart 91 = .ok (.lconst 0, 1) := by decide +kernel
theorem dX1_restart_92 : decode cX1_restart 92 = .ok (.lastore, 1) := by decide +kernel
theorem dX1_restart_93 : decode cX1_restart 93 = .ok (.iinc 7 1, 3) := by decide +kernel
theorem dX1_restart_96 : decode cX1_restart 96 = .ok (.goto (-22), 3) := by decide +kernel
theorem dX1_restart_99 : decode cX1_restart 99 = .ok (.iinc 6 1, 3) := by decide +kernel
theorem dX1_restart_102 : decode cX1_restart 102 = .ok (.goto (-39), 3) := by decide +kernel
theorem dX1_restart_105 : decode cX1_restart 105 = .ok (.return_, 1) := by decide +kernel
theorem dX1_putSettings_0 : decode cX1_putSettings 0 = .ok (.aload_n 1, 1) := by decide +kernel
theorem dX1_putSettings_1 : decode cX1_putSettings 1 = .ok (.aload_n 0, 1) := by decide +kernel
theorem dX1_putSettings_2 : decode cX1_putSettings 2 = .ok (.getfield 38, 3) := by decide +kernel
theorem dX1_putSettings_5 : decode cX1_putSettings 5 = .ok (.i2l, 1) := by decide +kernel
theorem dX1_putSettings_6 : decode cX1_putSettings 6 = .ok (.iconst 4, 1) := by decide +kernel
theorem dX1_putSettings_7 : decode cX1_putSettings 7 = .ok (.invokevirtual 56, 3) := by decide +kernel
theorem dX1_putSettings_10 : decode cX1_putSettings 10 = .ok (.aload_n 1, 1) := by decide +kernel
theorem dX1_putSettings_11 : decode cX1_putSettings 11 = .ok (.aload_n 0, 1) := by decide +kernel
theorem dX1_putSettings_12 : decode cX1_putSettings 12 = .ok (.getfield 44, 3) := by decide +kernel
theorem dX1_putSettings_15 : decode cX1_putSettings 15 = .ok (.i2l, 1) := by decide +kernel
theorem dX1_putSettings_16 : decode cX1_putSettings 16 = .ok (.iconst 4, 1) := by decide +kernel
theorem dX1_putSettings_17 : decode cX1_putSettings 17 = .ok (.invokevirtual 56, 3) := by decide +kernel
theorem dX1_putSettings_20 : decode cX1_putSettings 20 = .ok (.aload_n 1, 1) := by decide +kernel
theorem dX1_putSettings_21 : decode cX1_putSettings 21 = .ok (.iload_n 2, 1) := by decide +kernel
theorem dX1_putSettings_22 : decode cX1_putSettings 22 = .ok (.i2l, 1) := by decide +kernel
theorem dX1_putSettings_23 : decode cX1_putSettings 23 = .ok (.iconst 4, 1) := by decide +kernel
theorem dX1_putSettings_24 : decode cX1_putSettings 24 = .ok (.invokevirtual 56, 3) := by decide +kernel
theorem dX1_putSettings_27 : decode cX1_putSettings 27 = .ok (.aload_n 1, 1) := by decide +kernel
theorem dX1_putSettings_28 : decode cX1_putSettings 28 = .ok (.aload_n 0, 1) := by decide +kernel
theorem dX1_putSettings_29 : decode cX1_putSettings 29 = .ok (.getfield 41, 3) := by decide +kernel
theorem dX1_putSettings_32 : decode cX1_putSettings 32 = .ok (.i2l, 1) := by decide +kernel
theorem dX1_putSettings_33 : decode cX1_putSettings 33 = .ok (.iconst 4, 1) := by decide +kernel
theorem dX1_putSettings_34 : decode cX1_putSettings 34 = .ok (.invokevirtual 56, 3) := by decide +kernel
theorem dX1_putSettings_37 : decode cX1_putSettings 37 = .ok (.aload_n 1, 1) := by decide +kernel
theorem dX1_putSettings_38 : decode cX1_putSettings 38 = .ok (.ldc2_w 62, 3) := by decide +kernel
theorem dX1_putSettings_41 : decode cX1_putSettings 41 = .ok (.iconst 4, 1) := by decide +kernel
theorem dX1_putSettings_42 : decode cX1_putSettings 42 = .ok (.invokevirtual 56, 3) := by decide +kernel
theorem dX1_putSettings_45 : decode cX1_putSettings 45 = .ok (.aload_n 1, 1) := by decide +kernel
theorem dX1_putSettings_46 : decode cX1_putSettings 46 = .ok (.aload_n 0, 1) := by decide +kernel
theorem dX1_putSettings_47 : decode cX1_putSettings 47 = .ok (.getfield 34, 3) := by decide +kernel
theorem dX1_putSettings_50 : decode cX1_putSettings 50 = .ok (.i2l, 1) := by decide +kernel
theorem dX1_putSettings_51 : decode cX1_putSettings 51 = .ok (.iconst 4, 1) := by decide +kernel
theorem dX1_putSettings_52 : decode cX1_putSettings 52 = .ok (.invokevirtual 56, 3) := by decide +kernel
theorem dX1_putSettings_55 : decode cX1_putSettings 55 = .ok (.return_, 1) := by decide +kernel
theorem dX1_isBegun_0 : decode cX1_isBegun 0 = .ok (.aload_n 0, 1) := by decide +kernel
theorem dX1_isBegun_1 : decode cX1_isBegun 1 = .ok (.getfield 38, 3) := by decide +kernel
theorem dX1_isBegun_4 : decode cX1_isBegun 4 = .ok (.ifCond .le 7, 3) := by decide +kernel
theorem dX1_isBegun_7 : decode cX1_isBegun 7 = .ok (.iconst 1, 1) := by decide +kernel
theorem dX1_isBegun_8 : decode cX1_isBegun 8 = .ok (.goto 4, 3) := by decide +kernel
theorem dX1_isBegun_11 : decode cX1_isBegun 11 = .ok (.iconst 0, 1) := by decide +kernel
theorem dX1_isBegun_12 : decode cX1_isBegun 12 = .ok (.ireturn, 1) := by decide +kernel
theorem dX1_blocks_0 : decode cX1_blocks 0 = .ok (.aload_n 0, 1) := by decide +kernel
theorem dX1_blocks_1 : decode cX1_blocks 1 = .ok (.getfield 38, 3) := by decide +kernel
theorem dX1_blocks_4 : decode cX1_blocks 4 = .ok (.aload_n 0, 1) := by decide +kernel
theorem dX1_blocks_5 : decode cX1_blocks 5 = .ok (.getfield 50, 3) := by decide +kernel
theorem dX1_blocks_8 : decode cX1_blocks 8 = .ok (.imul, 1) := by decide +kernel
theorem dX1_blocks_9 : decode cX1_blocks 9 = .ok (.ireturn, 1) := by decide +kernel
theorem dX1_segments_0 : decode cX1_segments 0 = .ok (.aload_n 0, 1) := by decide +kernel
theorem dX1_segments_1 : decode cX1_segments 1 = .ok (.getfield 41, 3) := by decide +kernel
theorem dX1_segments_4 : decode cX1_segments 4 = .ok (.iconst 4, 1) := by decide +kernel
theorem dX1_segments_5 : decode cX1_segments 5 = .ok (.imul, 1) := by decide +kernel
theorem dX1_segments_6 : decode cX1_segments 6 = .ok (.aload_n 0, 1) := by decide +kernel
theorem dX1_segments_7 : decode cX1_segments 7 = .ok (.getfield 38, 3) := by decide +kernel
theorem dX1_segments_10 : decode cX1_segments 10 = .ok (.imul, 1) := by decide +kernel
theorem dX1_segments_11 : decode cX1_segments 11 = .ok (.ireturn, 1) := by decide +kernel
theorem dX1_wordOf_0 : decode cX1_wordOf 0 = .ok (.iload_n 1, 1) := by decide +kernel
theorem dX1_wordOf_1 : decode cX1_wordOf 1 = .ok (.ifCond .lt 22, 3) := by decide +kernel
theorem dX1_wordOf_4 : decode cX1_wordOf 4 = .ok (.iload_n 1, 1) := by decide +kernel
theorem dX1_wordOf_5 : decode cX1_wordOf 5 = .ok (.aload_n 0, 1) := by decide +kernel
theorem dX1_wordOf_6 : decode cX1_wordOf 6 = .ok (.invokevirtual 64, 3) := by decide +kernel
theorem dX1_wordOf_9 : decode cX1_wordOf 9 = .ok (.if_icmp .ge 14, 3) := by decide +kernel
theorem dX1_wordOf_12 : decode cX1_wordOf 12 = .ok (.iload_n 2, 1) := by decide +kernel
theorem dX1_wordOf_13 : decode cX1_wordOf 13 = .ok (.ifCond .lt 10, 3) := by decide +kernel
theorem dX1_wordOf_16 : decode cX1_wordOf 16 = .ok (.iload_n 2, 1) := by decide +kernel
theorem dX1_wordOf_17 : decode cX1_wordOf 17 = .ok (.sipush 128, 3) := by decide +kernel
theorem dX1_wordOf_20 : decode cX1_wordOf 20 = .ok (.if_icmp .lt 5, 3) := by decide +kernel
theorem dX1_wordOf_23 : decode cX1_wordOf 23 = .ok (.lconst 0, 1) := by decide +kernel
theorem dX1_wordOf_24 : decode cX1_wordOf 24 = .ok (.lreturn, 1) := by decide +kernel
theorem dX1_wordOf_25 : decode cX1_wordOf 25 = .ok (.aload_n 0, 1) := by decide +kernel
theorem dX1_wordOf_26 : decode cX1_wordOf 26 = .ok (.iload_n 1, 1) := by decide +kernel
theorem dX1_wordOf_27 : decode cX1_wordOf 27 = .ok (.invokevirtual 68, 3) := by decide +kernel
theorem dX1_wordOf_30 : decode cX1_wordOf 30 = .ok (.iload_n 2, 1) := by decide +kernel
theorem dX1_wordOf_31 : decode cX1_wordOf 31 = .ok (.laload, 1) := by decide +kernel
theorem dX1_wordOf_32 : decode cX1_wordOf 32 = .ok (.lreturn, 1) := by decide +kernel
theorem dX1_lay_0 : decode cX1_lay 0 = .ok (.aload_n 0, 1) := by decide +kernel
theorem dX1_lay_1 : decode cX1_lay 1 = .ok (.iload_n 1, 1) := by decide +kernel
theorem dX1_lay_2 : decode cX1_lay 2 = .ok (.aload_n 0, 1) := by decide +kernel
theorem dX1_lay_3 : decode cX1_lay 3 = .ok (.getfield 50, 3) := by decide +kernel
theorem dX1_lay_6 : decode cX1_lay 6 = .ok (.imul, 1) := by decide +kernel
theorem dX1_lay_7 : decode cX1_lay 7 = .ok (.iload_n 2, 1) := by decide +kernel
theorem dX1_lay_8 : decode cX1_lay 8 = .ok (.iadd, 1) := by decide +kernel
theorem dX1_lay_9 : decode cX1_lay 9 = .ok (.invokevirtual 68, 3) := by decide +kernel
theorem dX1_lay_12 : decode cX1_lay 12 = .ok (.astore 4, 2) := by decide +kernel
theorem dX1_lay_14 : decode cX1_lay 14 = .ok (.iconst 0, 1) := by decide +kernel
theorem dX1_lay_15 : decode cX1_lay 15 = .ok (.istore 5, 2) := by decide +kernel
theorem dX1_lay_17 : decode cX1_lay 17 = .ok (.iload 5, 2) := by decide +kernel
theorem dX1_lay_19 : decode cX1_lay 19 = .ok (.sipush 128, 3) := by decide +kernel
theorem dX1_lay_22 : decode cX1_lay 22 = .ok (.if_icmp .ge 23, 3) := by decide +kernel
theorem dX1_lay_25 : decode cX1_lay 25 = .ok (.aload 4, 2) := by decide +kernel
theorem dX1_lay_27 : decode cX1_lay 27 = .ok (.iload 5, 2) := by decide +kernel
theorem dX1_lay_29 : decode cX1_lay 29 = .ok (.aload_n 3, 1) := by decide +kernel
theorem dX1_lay_30 : decode cX1_lay 30 = .ok (.bipush 8, 2) := by decide +kernel
theorem dX1_lay_32 : decode cX1_lay 32 = .ok (.iload 5, 2) := by decide +kernel
theorem dX1_lay_34 : decode cX1_lay 34 = .ok (.imul, 1) := by decide +kernel
theorem dX1_lay_35 : decode cX1_lay 35 = .ok (.invokevirtual 72, 3) := by decide +kernel
theorem dX1_lay_38 : decode cX1_lay 38 = .ok (.lastore, 1) := by decide +kernel
theorem dX1_lay_39 : decode cX1_lay 39 = .ok (.iinc 5 1, 3) := by decide +kernel
theorem dX1_lay_42 : decode cX1_lay 42 = .ok (.goto (-25), 3) := by decide +kernel
theorem dX1_lay_45 : decode cX1_lay 45 = .ok (.return_, 1) := by decide +kernel
theorem dX1_putLastBlocks_0 : decode cX1_putLastBlocks 0 = .ok (.iconst 0, 1) := by decide +kernel
theorem dX1_putLastBlocks_1 : decode cX1_putLastBlocks 1 = .ok (.istore_n 2, 1) := by decide +kernel
theorem dX1_putLastBlocks_2 : decode cX1_putLastBlocks 2 = .ok (.iload_n 2, 1) := by decide +kernel
theorem dX1_putLastBlocks_3 : decode cX1_putLastBlocks 3 = .ok (.sipush 128, 3) := by decide +kernel
theorem dX1_putLastBlocks_6 : decode cX1_putLastBlocks 6 = .ok (.if_icmp .ge 53, 3) := by decide +kernel
theorem dX1_putLastBlocks_9 : decode cX1_putLastBlocks 9 = .ok (.lconst 0, 1) := by decide +kernel
theorem dX1_putLastBlocks_10 : decode cX1_putLastBlocks 10 = .ok (.lstore_n 3, 1) := by decide +kernel
theorem dX1_putLastBlocks_11 : decode cX1_putLastBlocks 11 = .ok (.iconst 1, 1) := by decide +kernel
theorem dX1_putLastBlocks_12 : decode cX1_putLastBlocks 12 = .ok (.istore 5, 2) := by decide +kernel
theorem dX1_putLastBlocks_14 : decode cX1_putLastBlocks 14 = .ok (.iload 5, 2) := by decide +kernel
theorem dX1_putLastBlocks_16 : decode cX1_putLastBlocks 16 = .ok (.aload_n 0, 1) := by decide +kernel
theorem dX1_putLastBlocks_17 : decode cX1_putLastBlocks 17 = .ok (.getfield 38, 3) := by decide +kernel
theorem dX1_putLastBlocks_20 : decode cX1_putLastBlocks 20 = .ok (.if_icmp .gt 26, 3) := by decide +kernel
theorem dX1_putLastBlocks_23 : decode cX1_putLastBlocks 23 = .ok (.lload_n 3, 1) := by decide +kernel
theorem dX1_putLastBlocks_24 : decode cX1_putLastBlocks 24 = .ok (.aload_n 0, 1) := by decide +kernel
theorem dX1_putLastBlocks_25 : decode cX1_putLastBlocks 25 = .ok (.iload 5, 2) := by decide +kernel
theorem dX1_putLastBlocks_27 : decode cX1_putLastBlocks 27 = .ok (.aload_n 0, 1) := by decide +kernel
theorem dX1_putLastBlocks_28 : decode cX1_putLastBlocks 28 = .ok (.getfield 50, 3) := by decide +kernel
theorem dX1_putLastBlocks_31 : decode cX1_putLastBlocks 31 = .ok (.imul, 1) := by decide +kernel
theorem dX1_putLastBlocks_32 : decode cX1_putLastBlocks 32 = .ok (.iconst 1, 1) := by decide +kernel
theorem dX1_putLastBlocks_33 : decode cX1_putLastBlocks 33 = .ok (.isub, 1) := by decide +kernel
theorem dX1_putLastBlocks_34 : decode cX1_putLastBlocks 34 = .ok (.iload_n 2, 1) := by decide +kernel
theorem dX1_putLastBlocks_35 : decode cX1_putLastBlocks 35 = .ok (.invokevirtual 76, 3) := by decide +kernel
theorem dX1_putLastBlocks_38 : decode cX1_putLastBlocks 38 = .ok (.lxor, 1) := by decide +kernel
theorem dX1_putLastBlocks_39 : decode cX1_putLastBlocks 39 = .ok (.lstore_n 3, 1) := by decide +kernel
theorem dX1_putLastBlocks_40 : decode cX1_putLastBlocks 40 = .ok (.iinc 5 1, 3) := by decide +kernel
theorem dX1_putLastBlocks_43 : decode cX1_putLastBlocks 43 = .ok (.goto (-29), 3) := by decide +kernel
theorem dX1_putLastBlocks_46 : decode cX1_putLastBlocks 46 = .ok (.aload_n 1, 1) := by decide +kernel
theorem dX1_putLastBlocks_47 : decode cX1_putLastBlocks 47 = .ok (.lload_n 3, 1) := by decide +kernel
theorem dX1_putLastBlocks_48 : decode cX1_putLastBlocks 48 = .ok (.bipush 8, 2) := by decide +kernel
theorem dX1_putLastBlocks_50 : decode cX1_putLastBlocks 50 = .ok (.invokevirtual 56, 3) := by decide +kernel
theorem dX1_putLastBlocks_53 : decode cX1_putLastBlocks 53 = .ok (.iinc 2 1, 3) := by decide +kernel
theorem dX1_putLastBlocks_56 : decode cX1_putLastBlocks 56 = .ok (.goto (-54), 3) := by decide +kernel
theorem dX1_putLastBlocks_59 : decode cX1_putLastBlocks 59 = .ok (.return_, 1) := by decide +kernel
