theorem dX8_ring_1 : decode cX8_ring 1 = .ok (.iload_n 1, 1) := by decide +kernel
theorem dX8_ring_2 : decode cX8_ring 2 = .ok (.i2l, 1) := by decide +kernel
theorem dX8_ring_3 : decode cX8_ring 3 = .ok (.lconst 0, 1) := by decide +kernel
theorem dX8_ring_4 : decode cX8_ring 4 = .ok (.aload_n 0, 1) := by decide +kernel
theorem dX8_ring_5 : decode cX8_ring 5 = .ok (.getfield 288, 3) := by decide +kernel
theorem dX8_ring_8 : decode cX8_ring 8 = .ok (.iconst 1, 1) := by decide +kernel
theorem dX8_ring_9 : decode cX8_ring 9 = .ok (.isub, 1) := by decide +kernel
theorem dX8_ring_10 : decode cX8_ring 10 = .ok (.i2l, 1) := by decide +kernel
theorem dX8_ring_11 : decode cX8_ring 11 = .ok (.invokestatic 131, 3) := by decide +kernel
theorem dX8_ring_14 : decode cX8_ring 14 = .ok (.ifCond .eq 11, 3) := by decide +kernel
theorem dX8_ring_17 : decode cX8_ring 17 = .ok (.iload_n 2, 1) := by decide +kernel
theorem dX8_ring_18 : decode cX8_ring 18 = .ok (.ifCond .lt 7, 3) := by decide +kernel
theorem dX8_ring_21 : decode cX8_ring 21 = .ok (.iconst 1, 1) := by decide +kernel
theorem dX8_ring_22 : decode cX8_ring 22 = .ok (.goto 4, 3) := by decide +kernel
theorem dX8_ring_25 : decode cX8_ring 25 = .ok (.iconst 0, 1) := by decide +kernel
theorem dX8_ring_26 : decode cX8_ring 26 = .ok (.invokestatic 330, 3) := by decide +kernel
theorem dX8_ring_29 : decode cX8_ring 29 = .ok (.invokevirtual 245, 3) := by decide +kernel
theorem dX8_ring_32 : decode cX8_ring 32 = .ok (.ifCond .eq 5, 3) := by decide +kernel
theorem dX8_ring_35 : decode cX8_ring 35 = .ok (.iconst (-1), 1) := by decide +kernel
theorem dX8_ring_36 : decode cX8_ring 36 = .ok (.ireturn, 1) := by decide +kernel
theorem dX8_ring_37 : decode cX8_ring 37 = .ok (.iload_n 2, 1) := by decide +kernel
theorem dX8_ring_38 : decode cX8_ring 38 = .ok (.aload_n 0, 1) := by decide +kernel
theorem dX8_ring_39 : decode cX8_ring 39 = .ok (.getfield 62, 3) := by decide +kernel
theorem dX8_ring_42 : decode cX8_ring 42 = .ok (.iload_n 1, 1) := by decide +kernel
theorem dX8_ring_43 : decode cX8_ring 43 = .ok (.iaload, 1) := by decide +kernel
theorem dX8_ring_44 : decode cX8_ring 44 = .ok (.if_icmp .ge 17, 3) := by decide +kernel
theorem dX8_ring_47 : decode cX8_ring 47 = .ok (.aload_n 0, 1) := by decide +kernel
theorem dX8_ring_48 : decode cX8_ring 48 = .ok (.getfield 56, 3) := by decide +kernel
theorem dX8_ring_51 : decode cX8_ring 51 = .ok (.bipush 14, 2) := by decide +kernel
theorem dX8_ring_53 : decode cX8_ring 53 = .ok (.iload_n 1, 1) := by decide +kernel
theorem dX8_ring_54 : decode cX8_ring 54 = .ok (.imul, 1) := by decide +kernel
theorem dX8_ring_55 : decode cX8_ring 55 = .ok (.iload_n 2, 1) := by decide +kernel
theorem dX8_ring_56 : decode cX8_ring 56 = .ok (.iadd, 1) := by decide +kernel
theorem dX8_ring_57 : decode cX8_ring 57 = .ok (.iaload, 1) := by decide +kernel
theorem dX8_ring_58 : decode cX8_ring 58 = .ok (.goto 5, 3) := by decide +kernel
theorem dX8_ring_61 : decode cX8_ring 61 = .ok (.bipush (-2), 2) := by decide +kernel
theorem dX8_ring_63 : decode cX8_ring 63 = .ok (.ireturn, 1) := by decide +kernel
theorem dX8_sum_0 : decode cX8_sum 0 = .ok (.aload_n 0, 1) := by decide +kernel
theorem dX8_sum_1 : decode cX8_sum 1 = .ok (.iload_n 1, 1) := by decide +kernel
theorem dX8_sum_2 : decode cX8_sum 2 = .ok (.i2l, 1) := by decide +kernel
theorem dX8_sum_3 : decode cX8_sum 3 = .ok (.lconst 0, 1) := by decide +kernel
theorem dX8_sum_4 : decode cX8_sum 4 = .ok (.aload_n 0, 1) := by decide +kernel
theorem dX8_sum_5 : decode cX8_sum 5 = .ok (.getfield 288, 3) := by decide +kernel
theorem dX8_sum_8 : decode cX8_sum 8 = .ok (.iconst 1, 1) := by decide +kernel
theorem dX8_sum_9 : decode cX8_sum 9 = .ok (.isub, 1) := by decide +kernel
theorem dX8_sum_10 : decode cX8_sum 10 = .ok (.i2l, 1) := by decide +kernel
theorem dX8_sum_11 : decode cX8_sum 11 = .ok (.invokestatic 131, 3) := by decide +kernel
theorem dX8_sum_14 : decode cX8_sum 14 = .ok (.ifCond .eq 17, 3) := by decide +kernel
theorem dX8_sum_17 : decode cX8_sum 17 = .ok (.iload_n 2, 1) := by decide +kernel
theorem dX8_sum_18 : decode cX8_sum 18 = .ok (.i2l, 1) := by decide +kernel
theorem dX8_sum_19 : decode cX8_sum 19 = .ok (.lconst 0, 1) := by decide +kernel
theorem dX8_sum_20 : decode cX8_sum 20 = .ok (.lconst 1, 1) := by decide +kernel
theorem dX8_sum_21 : decode cX8_sum 21 = .ok (.invokestatic 131, 3) := by decide +kernel
theorem dX8_sum_24 : decode cX8_sum 24 = .ok (.ifCond .eq 7, 3) := by decide +kernel
theorem dX8_sum_27 : decode cX8_sum 27 = .ok (.iconst 1, 1) := by decide +kernel
theorem dX8_sum_28 : decode cX8_sum 28 = .ok (.goto 4, 3) := by decide +kernel
theorem dX8_sum_31 : decode cX8_sum 31 = .ok (.iconst 0, 1) := by decide +kernel
theorem dX8_sum_32 : decode cX8_sum 32 = .ok (.invokestatic 330, 3) := by decide +kernel
theorem dX8_sum_35 : decode cX8_sum 35 = .ok (.invokevirtual 245, 3) := by decide +kernel
theorem dX8_sum_38 : decode cX8_sum 38 = .ok (.ifCond .eq 7, 3) := by decide +kernel
theorem dX8_sum_41 : decode cX8_sum 41 = .ok (.ldc2_w 102, 3) := by decide +kernel
theorem dX8_sum_44 : decode cX8_sum 44 = .ok (.lreturn, 1) := by decide +kernel
theorem dX8_sum_45 : decode cX8_sum 45 = .ok (.iload_n 2, 1) := by decide +kernel
theorem dX8_sum_46 : decode cX8_sum 46 = .ok (.ifCond .ne 11, 3) := by decide +kernel
theorem dX8_sum_49 : decode cX8_sum 49 = .ok (.aload_n 0, 1) := by decide +kernel
theorem dX8_sum_50 : decode cX8_sum 50 = .ok (.iload_n 1, 1) := by decide +kernel
theorem dX8_sum_51 : decode cX8_sum 51 = .ok (.invokevirtual 337, 3) := by decide +kernel
theorem dX8_sum_54 : decode cX8_sum 54 = .ok (.goto 8, 3) := by decide +kernel
theorem dX8_sum_57 : decode cX8_sum 57 = .ok (.aload_n 0, 1) := by decide +kernel
theorem dX8_sum_58 : decode cX8_sum 58 = .ok (.iload_n 1, 1) := by decide +kernel
theorem dX8_sum_59 : decode cX8_sum 59 = .ok (.invokevirtual 340, 3) := by decide +kernel
theorem dX8_sum_62 : decode cX8_sum 62 = .ok (.lreturn, 1) := by decide +kernel
theorem dX8_early_0 : decode cX8_early 0 = .ok (.aload_n 0, 1) := by decide +kernel
theorem dX8_early_1 : decode cX8_early 1 = .ok (.aload_n 0, 1) := by decide +kernel
theorem dX8_early_2 : decode cX8_early 2 = .ok (.iload_n 1, 1) := by decide +kernel
theorem dX8_early_3 : decode cX8_early 3 = .ok (.invokevirtual 317, 3) := by decide +kernel
theorem dX8_early_6 : decode cX8_early 6 = .ok (.iload_n 2, 1) := by decide +kernel
theorem dX8_early_7 : decode cX8_early 7 = .ok (.i2l, 1) := by decide +kernel
theorem dX8_early_8 : decode cX8_early 8 = .ok (.lconst 0, 1) := by decide +kernel
theorem dX8_early_9 : decode cX8_early 9 = .ok (.ldc2_w 416, 3) := by decide +kernel
theorem dX8_early_12 : decode cX8_early 12 = .ok (.invokestatic 131, 3) := by decide +kernel
theorem dX8_early_15 : decode cX8_early 15 = .ok (.invokestatic 241, 3) := by decide +kernel
theorem dX8_early_18 : decode cX8_early 18 = .ok (.invokevirtual 245, 3) := by decide +kernel
theorem dX8_early_21 : decode cX8_early 21 = .ok (.ifCond .eq 7, 3) := by decide +kernel
theorem dX8_early_24 : decode cX8_early 24 = .ok (.ldc2_w 102, 3) := by decide +kernel
theorem dX8_early_27 : decode cX8_early 27 = .ok (.lreturn, 1) := by decide +kernel
theorem dX8_early_28 : decode cX8_early 28 = .ok (.aload_n 0, 1) := by decide +kernel
theorem dX8_early_29 : decode cX8_early 29 = .ok (.iload_n 2, 1) := by decide +kernel
theorem dX8_early_30 : decode cX8_early 30 = .ok (.invokevirtual 418, 3) := by decide +kernel
theorem dX8_early_33 : decode cX8_early 33 = .ok (.aload_n 0, 1) := by decide +kernel
theorem dX8_early_34 : decode cX8_early 34 = .ok (.getfield 52, 3) := by decide +kernel
theorem dX8_early_37 : decode cX8_early 37 = .ok (.iload_n 1, 1) := by decide +kernel
theorem dX8_early_38 : decode cX8_early 38 = .ok (.laload, 1) := by decide +kernel
theorem dX8_early_39 : decode cX8_early 39 = .ok (.lstore_n 3, 1) := by decide +kernel
theorem dX8_early_40 : decode cX8_early 40 = .ok (.aload_n 0, 1) := by decide +kernel
theorem dX8_early_41 : decode cX8_early 41 = .ok (.invokevirtual 260, 3) := by decide +kernel
theorem dX8_early_44 : decode cX8_early 44 = .ok (.lload_n 3, 1) := by decide +kernel
theorem dX8_early_45 : decode cX8_early 45 = .ok (.lreturn, 1) := by decide +kernel
theorem dX8_laysEarly_0 : decode cX8_laysEarly 0 = .ok (.aload_n 0, 1) := by decide +kernel
theorem dX8_laysEarly_1 : decode cX8_laysEarly 1 = .ok (.iconst 0, 1) := by decide +kernel
theorem dX8_laysEarly_2 : decode cX8_laysEarly 2 = .ok (.putfield 263, 3) := by decide +kernel
theorem dX8_laysEarly_5 : decode cX8_laysEarly 5 = .ok (.aload_n 0, 1) := by decide +kernel
theorem dX8_laysEarly_6 : decode cX8_laysEarly 6 = .ok (.invokevirtual 370, 3) := by decide +kernel
theorem dX8_laysEarly_9 : decode cX8_laysEarly 9 = .ok (.iconst 1, 1) := by decide +kernel
theorem dX8_laysEarly_10 : decode cX8_laysEarly 10 = .ok (.istore_n 2, 1) := by decide +kernel
theorem dX8_laysEarly_11 : decode cX8_laysEarly 11 = .ok (.iconst 0, 1) := by decide +kernel
theorem dX8_laysEarly_12 : decode cX8_laysEarly 12 = .ok (.istore_n 3, 1) := by decide +kernel
theorem dX8_laysEarly_13 : decode cX8_laysEarly 13 = .ok (.iload_n 3, 1) := by decide +kernel
theorem dX8_laysEarly_14 : decode cX8_laysEarly 14 = .ok (.iload_n 1, 1) := by decide +kernel
theorem dX8_laysEarly_15 : decode cX8_laysEarly 15 = .ok (.if_icmp .ge 18, 3) := by decide +kernel
theorem dX8_laysEarly_18 : decode cX8_laysEarly 18 = .ok (.iload_n 2, 1) := by decide +kernel
theorem dX8_laysEarly_19 : decode cX8_laysEarly 19 = .ok (.ifCond .eq 14, 3) := by decide +kernel
theorem dX8_laysEarly_22 : decode cX8_laysEarly 22 = .ok (.aload_n 0, 1) := by decide +kernel
theorem dX8_laysEarly_23 : decode cX8_laysEarly 23 = .ok (.invokevirtual 376, 3) := by decide +kernel
theorem dX8_laysEarly_26 : decode cX8_laysEarly 26 = .ok (.istore_n 2, 1) := by decide +kernel
theorem dX8_laysEarly_27 : decode cX8_laysEarly 27 = .ok (.iinc 3 1, 3) := by decide +kernel
theorem dX8_laysEarly_30 : decode cX8_laysEarly 30 = .ok (.goto (-17), 3) := by decide +kernel
theorem dX8_laysEarly_33 : decode cX8_laysEarly 33 = .ok (.return_, 1) := by decide +kernel
theorem dX8_gap_0 : decode cX8_gap 0 = .ok (.aload_n 0, 1) := by decide +kernel
theorem dX8_gap_1 : decode cX8_gap 1 = .ok (.aload_n 0, 1) := by decide +kernel
theorem dX8_gap_2 : decode cX8_gap 2 = .ok (.getfield 229, 3) := by decide +kernel
theorem dX8_gap_5 : decode cX8_gap 5 = .ok (.ifCond .le 7, 3) := by decide +kernel
theorem dX8_gap_8 : decode cX8_gap 8 = .ok (.iconst 1, 1) := by decide +kernel
theorem dX8_gap_9 : decode cX8_gap 9 = .ok (.goto 4, 3) := by decide +kernel
theorem dX8_gap_12 : decode cX8_gap 12 = .ok (.iconst 0, 1) := by decide +kernel
theorem dX8_gap_13 : decode cX8_gap 13 = .ok (.iload_n 1, 1) := by decide +kernel
theorem dX8_gap_14 : decode cX8_gap 14 = .ok (.i2l, 1) := by decide +kernel
theorem dX8_gap_15 : decode cX8_gap 15 = .ok (.lconst 0, 1) := by decide +kernel
theorem dX8_gap_16 : decode cX8_gap 16 = .ok (.ldc2_w 416, 3) := by decide +kernel
theorem dX8_gap_19 : decode cX8_gap 19 = .ok (.invokestatic 131, 3) := by decide +kernel
theorem dX8_gap_22 : decode cX8_gap 22 = .ok (.invokestatic 241, 3) := by decide +kernel
theorem dX8_gap_25 : decode cX8_gap 25 = .ok (.invokevirtual 245, 3) := by decide +kernel
theorem dX8_gap_28 : decode cX8_gap 28 = .ok (.ifCond .eq 7, 3) := by decide +kernel
theorem dX8_gap_31 : decode cX8_gap 31 = .ok (.ldc2_w 102, 3) := by decide +kernel
theorem dX8_gap_34 : decode cX8_gap 34 = .ok (.lreturn, 1) := by decide +kernel
theorem dX8_gap_35 : decode cX8_gap 35 = .ok (.aload_n 0, 1) := by decide +kernel
theorem dX8_gap_36 : decode cX8_gap 36 = .ok (.iload_n 1, 1) := by decide +kernel
theorem dX8_gap_37 : decode cX8_gap 37 = .ok (.invokevirtual 418, 3) := by decide +kernel
theorem dX8_gap_40 : decode cX8_gap 40 = .ok (.lconst 0, 1) := by decide +kernel
theorem dX8_gap_41 : decode cX8_gap 41 = .ok (.lstore_n 2, 1) := by decide +kernel
theorem dX8_gap_42 : decode cX8_gap 42 = .ok (.iconst 0, 1) := by decide +kernel
theorem dX8_gap_43 : decode cX8_gap 43 = .ok (.istore 4, 2) := by decide +kernel
theorem dX8_gap_45 : decode cX8_gap 45 = .ok (.iload 4, 2) := by decide +kernel
theorem dX8_gap_47 : decode cX8_gap 47 = .ok (.aload_n 0, 1) := by decide +kernel
theorem dX8_gap_48 : decode cX8_gap 48 = .ok (.getfield 288, 3) := by decide +kernel
theorem dX8_gap_51 : decode cX8_gap 51 = .ok (.if_icmp .ge 48, 3) := by decide +kernel
theorem dX8_gap_54 : decode cX8_gap 54 = .ok (.aload_n 0, 1) := by decide +kernel
theorem dX8_gap_55 : decode cX8_gap 55 = .ok (.iload 4, 2) := by decide +kernel
theorem dX8_gap_57 : decode cX8_gap 57 = .ok (.invokevirtual 337, 3) := by decide +kernel
theorem dX8_gap_60 : decode cX8_gap 60 = .ok (.lstore 5, 2) := by decide +kernel
theorem dX8_gap_62 : decode cX8_gap 62 = .ok (.lload 5, 2) := by decide +kernel
theorem dX8_gap_64 : decode cX8_gap 64 = .ok (.lconst 0, 1) := by decide +kernel
theorem dX8_gap_65 : decode cX8_gap 65 = .ok (.lcmp, 1) := by decide +kernel
theorem dX8_gap_66 : decode cX8_gap 66 = .ok (.ifCond .ge 9, 3) := by decide +kernel
theorem dX8_gap_69 : decode cX8_gap 69 = .ok (.lload 5, 2) := by decide +kernel
theorem dX8_gap_71 : decode cX8_gap 71 = .ok (.lneg, 1) := by decide +kernel
theorem dX8_gap_72 : decode cX8_gap 72 = .ok (.goto 5, 3) := by decide +kernel
theorem dX8_gap_75 : decode cX8_gap 75 = .ok (.lload 5, 2) := by decide +kernel
theorem dX8_gap_77 : decode cX8_gap 77 = .ok (.lstore 5, 2) := by decide +kernel
theorem dX8_gap_79 : decode cX8_gap 79 = .ok (.lload 5, 2) := by decide +kernel
theorem dX8_gap_81 : decode cX8_gap 81 = .ok (.lload_n 2, 1) := by decide +kernel
theorem dX8_gap_82 : decode cX8_gap 82 = .ok (.lcmp, 1) := by decide +kernel
theorem dX8_gap_83 : decode cX8_gap 83 = .ok (.ifCond .le 8, 3) := by decide +kernel
theorem dX8_gap_86 : decode cX8_gap 86 = .ok (.lload 5, 2) := by decide +kernel
theorem dX8_gap_88 : decode cX8_gap 88 = .ok (.goto 4, 3) := by decide +kernel
theorem dX8_gap_91 : decode cX8_gap 91 = .ok (.lload_n 2, 1) := by decide +kernel
theorem dX8_gap_92 : decode cX8_gap 92 = .ok (.lstore_n 2, 1) := by decide +kernel
theorem dX8_gap_93 : decode cX8_gap 93 = .ok (.iinc 4 1, 3) := by decide +kernel
theorem dX8_gap_96 : decode cX8_gap 96 = .ok (.goto (-51), 3) := by decide +kernel
theorem dX8_gap_99 : decode cX8_gap 99 = .ok (.aload_n 0, 1) := by decide +kernel
theorem dX8_gap_100 : decode cX8_gap 100 = .ok (.invokevirtual 260, 3) := by decide +kernel
theorem dX8_gap_103 : decode cX8_gap 103 = .ok (.lload_n 2, 1) := by decide +kernel
theorem dX8_gap_104 : decode cX8_gap 104 = .ok (.lreturn, 1) := by decide +kernel
theorem dX8_balance_0 : decode cX8_balance 0 = .ok (.aload_n 0, 1) := by decide +kernel
theorem dX8_balance_1 : decode cX8_balance 1 = .ok (.aload_n 0, 1) := by decide +kernel
theorem dX8_balance_2 : decode cX8_balance 2 = .ok (.iload_n 1, 1) := by decide +kernel
theorem dX8_balance_3 : decode cX8_balance 3 = .ok (.invokevirtual 421, 3) := by decide +kernel
theorem dX8_balance_6 : decode cX8_balance 6 = .ok (.invokestatic 330, 3) := by decide +kernel
theorem dX8_balance_9 : decode cX8_balance 9 = .ok (.invokevirtual 245, 3) := by decide +kernel
theorem dX8_balance_12 : decode cX8_balance 12 = .ok (.ifCond .eq 7, 3) := by decide +kernel
theorem dX8_balance_15 : decode cX8_balance 15 = .ok (.ldc2_w 102, 3) := by decide +kernel
theorem dX8_balance_18 : decode cX8_balance 18 = .ok (.lreturn, 1) := by decide +kernel
theorem dX8_balance_19 : decode cX8_balance 19 = .ok (.aload_n 0, 1) := by decide +kernel
theorem dX8_balance_20 : decode cX8_balance 20 = .ok (.iload_n 1, 1) := by decide +kernel
theorem dX8_balance_21 : decode cX8_balance 21 = .ok (.invokevirtual 272, 3) := by decide +kernel
theorem dX8_balance_24 : decode cX8_balance 24 = .ok (.ifCond .eq 14, 3) := by decide +kernel
theorem dX8_balance_27 : decode cX8_balance 27 = .ok (.aload_n 0, 1) := by decide +kernel
theorem dX8_balance_28 : decode cX8_balance 28 = .ok (.getfield 19, 3) := by decide +kernel
theorem dX8_balance_31 : decode cX8_balance 31 = .ok (.iload_n 1, 1) := by decide +kernel
theorem dX8_balance_32 : decode cX8_balance 32 = .ok (.iaload, 1) := by decide +kernel
theorem dX8_balance_33 : decode cX8_balance 33 = .ok (.ineg, 1) := by decide +kernel
theorem dX8_balance_34 : decode cX8_balance 34 = .ok (.i2l, 1) := by decide +kernel
theorem dX8_balance_35 : decode cX8_balance 35 = .ok (.goto 4, 3) := by decide +kernel
theorem dX8_balance_38 : decode cX8_balance 38 = .ok (.lconst 0, 1) := by decide +kernel
theorem dX8_balance_39 : decode cX8_balance 39 = .ok (.lstore_n 2, 1) := by decide +kernel
theorem dX8_balance_40 : decode cX8_balance 40 = .ok (.iconst 0, 1) := by decide +kernel
theorem dX8_balance_41 : decode cX8_balance 41 = .ok (.istore 4, 2) := by decide +kernel
theorem dX8_balance_43 : decode cX8_balance 43 = .ok (.iload 4, 2) := by decide +kernel
theorem dX8_balance_45 : decode cX8_balance 45 = .ok (.aload_n 0, 1) := by decide +kernel
theorem dX8_balance_46 : decode cX8_balance 46 = .ok (.getfield 232, 3) := by decide +kernel
theorem dX8_balance_49 : decode cX8_balance 49 = .ok (.if_icmp .ge 59, 3) := by decide +kernel
theorem dX8_balance_52 : decode cX8_balance 52 = .ok (.lload_n 2, 1) := by decide +kernel
theorem dX8_balance_53 : decode cX8_balance 53 = .ok (.aload_n 0, 1) := by decide +kernel
theorem dX8_balance_54 : decode cX8_balance 54 = .ok (.getfield 31, 3) := by decide +kernel
theorem dX8_balance_57 : decode cX8_balance 57 = .ok (.iload 4, 2) := by decide +kernel
theorem dX8_balance_59 : decode cX8_balance 59 = .ok (.iaload, 1) := by decide +kernel
theorem dX8_balance_60 : decode cX8_balance 60 = .ok (.iload_n 1, 1) := by decide +kernel
theorem dX8_balance_61 : decode cX8_balance 61 = .ok (.if_icmp .ne 13, 3) := by decide +kernel
theorem dX8_balance_64 : decode cX8_balance 64 = .ok (.aload_n 0, 1) := by decide +kernel
theorem dX8_balance_65 : decode cX8_balance 65 = .ok (.getfield 52, 3) := by decide +kernel
theorem dX8_balance_68 : decode cX8_balance 68 = .ok (.iload 4, 2) := by decide +kernel
theorem dX8_balance_70 : decode cX8_balance 70 = .ok (.laload, 1) := by decide +kernel
theorem dX8_balance_71 : decode cX8_balance 71 = .ok (.goto 4, 3) := by decide +kernel
theorem dX8_balance_74 : decode cX8_balance 74 = .ok (.lconst 0, 1) := by decide +kernel
theorem dX8_balance_75 : decode cX8_balance 75 = .ok (.ladd, 1) := by decide +kernel
theorem dX8_balance_76 : decode cX8_balance 76 = .ok (.lstore_n 2, 1) := by decide +kernel
theorem dX8_balance_77 : decode cX8_balance 77 = .ok (.lload_n 2, 1) := by decide +kernel
theorem dX8_balance_78 : decode cX8_balance 78 = .ok (.aload_n 0, 1) := by decide +kernel
theorem dX8_balance_79 : decode cX8_balance 79 = .ok (.getfield 28, 3) := by decide +kernel
theorem dX8_balance_82 : decode cX8_balance 82 = .ok (.iload 4, 2) := by decide +kernel
theorem dX8_balance_84 : decode cX8_balance 84 = .ok (.iaload, 1) := by decide +kernel
theorem dX8_balance_85 : decode cX8_balance 85 = .ok (.iload_n 1, 1) := by decide +kernel
theorem dX8_balance_86 : decode cX8_balance 86 = .ok (.if_icmp .ne 13, 3) := by decide +kernel
theorem dX8_balance_89 : decode cX8_balance 89 = .ok (.aload_n 0, 1) := by decide +kernel
theorem dX8_balance_90 : decode cX8_balance 90 = .ok (.getfield 52, 3) := by decide +kernel
theorem dX8_balance_93 : decode cX8_balance 93 = .ok (.iload 4, 2) := by decide +kernel
theorem dX8_balance_95 : decode cX8_balance 95 = .ok (.laload, 1) := by decide +kernel
theorem dX8_balance_96 : decode cX8_balance 96 = .ok (.goto 4, 3) := by decide +kernel
theorem dX8_balance_99 : decode cX8_balance 99 = .ok (.lconst 0, 1) := by decide +kernel
theorem dX8_balance_100 : decode cX8_balance 100 = .ok (.lsub, 1) := by decide +kernel
theorem dX8_balance_101 : decode cX8_balance 101 = .ok (.lstore_n 2, 1) := by decide +kernel
theorem dX8_balance_102 : decode cX8_balance 102 = .ok (.iinc 4 1, 3) := by decide +kernel
theorem dX8_balance_105 : decode cX8_balance 105 = .ok (.goto (-62), 3) := by decide +kernel
theorem dX8_balance_108 : decode cX8_balance 108 = .ok (.lload_n 2, 1) := by decide +kernel
theorem dX8_balance_109 : decode cX8_balance 109 = .ok (.lreturn, 1) := by decide +kernel
theorem dX8_work_0 : decode cX8_work 0 = .ok (.aload_n 0, 1) := by decide +kernel
theorem dX8_work_1 : decode cX8_work 1 = .ok (.aload_n 0, 1) := by decide +kernel
theorem dX8_work_2 : decode cX8_work 2 = .ok (.getfield 229, 3) := by decide +kernel
theorem dX8_work_5 : decode cX8_work 5 = .ok (.ifCond .le 7, 3) := by decide +kernel
theorem dX8_work_8 : decode cX8_work 8 = .ok (.iconst 1, 1) := by decide +kernel
theorem dX8_work_9 : decode cX8_work 9 = .ok (.goto 4, 3) := by decide +kernel
theorem dX8_work_12 : decode cX8_work 12 = .ok (.iconst 0, 1) := by decide +kernel
theorem dX8_work_13 : decode cX8_work 13 = .ok (.invokestatic 330, 3) := by decide +kernel
theorem dX8_work_16 : decode cX8_work 16 = .ok (.invokevirtual 245, 3) := by decide +kernel
theorem dX8_work_19 : decode cX8_work 19 = .ok (.ifCond .eq 7, 3) := by decide +kernel
theorem dX8_work_22 : decode cX8_work 22 = .ok (.ldc2_w 102, 3) := by decide +kernel
theorem dX8_work_25 : decode cX8_work 25 = .ok (.lreturn, 1) := by decide +kernel
theorem dX8_work_26 : decode cX8_work 26 = .ok (.lconst 0, 1) := by decide +kernel
theorem dX8_work_27 : decode cX8_work 27 = .ok (.lstore_n 1, 1) := by decide +kernel
theorem dX8_work_28 : decode cX8_work 28 = .ok (.iconst 0, 1) := by decide +kernel
theorem dX8_work_29 : decode cX8_work 29 = .ok (.istore_n 3, 1) := by decide +kernel
theorem dX8_work_30 : decode cX8_work 30 = .ok (.iload_n 3, 1) := by decide +kernel
theorem dX8_work_31 : decode cX8_work 31 = .ok (.aload_n 0, 1) := by decide +kernel
theorem dX8_work_32 : decode cX8_work 32 = .ok (.getfield 232, 3) := by decide +kernel
theorem dX8_work_35 : decode cX8_work 35 = .ok (.if_icmp .ge 52, 3) := by decide +kernel
theorem dX8_work_38 : decode cX8_work 38 = .ok (.lload_n 1, 1) := by decide +kernel
theorem dX8_work_39 : decode cX8_work 39 = .ok (.aload_n 0, 1) := by decide +kernel
theorem dX8_work_40 : decode cX8_work 40 = .ok (.getfield 34, 3) := by decide +kernel
theorem dX8_work_43 : decode cX8_work 43 = .ok (.iload_n 3, 1) := by decide +kernel
theorem dX8_work_44 : decode cX8_work 44 = .ok (.iaload, 1) := by decide +kernel
theorem dX8_work_45 : decode cX8_work 45 = .ok (.iconst 2, 1) := by decide +kernel
theorem dX8_work_46 : decode cX8_work 46 = .ok (.if_icmp .ne 32, 3) := by decide +kernel
theorem dX8_work_49 : decode cX8_work 49 = .ok (.aload_n 0, 1) := by decide +kernel
theorem dX8_work_50 : decode cX8_work 50 = .ok (.iload_n 3, 1) := by decide +kernel
theorem dX8_work_51 : decode cX8_work 51 = .ok (.invokevirtual 269, 3) := by decide +kernel
theorem dX8_work_54 : decode cX8_work 54 = .ok (.ifCond .eq 24, 3) := by decide +kernel
theorem dX8_work_57 : decode cX8_work 57 = .ok (.aload_n 0, 1) := by decide +kernel
theorem dX8_work_58 : decode cX8_work 58 = .ok (.getfield 52, 3) := by decide +kernel
theorem dX8_work_61 : decode cX8_work 61 = .ok (.iload_n 3, 1) := by decide +kernel
theorem dX8_work_62 : decode cX8_work 62 = .ok (.laload, 1) := by decide +kernel
theorem dX8_work_63 : decode cX8_work 63 = .ok (.aload_n 0, 1) := by decide +kernel
theorem dX8_work_64 : decode cX8_work 64 = .ok (.iload_n 3, 1) := by decide +kernel
theorem dX8_work_65 : decode cX8_work 65 = .ok (.aload_n 0, 1) := by decide +kernel
theorem dX8_work_66 : decode cX8_work 66 = .ok (.getfield 52, 3) := by decide +kernel
theorem dX8_work_69 : decode cX8_work 69 = .ok (.iload_n 3, 1) := by decide +kernel
theorem dX8_work_70 : decode cX8_work 70 = .ok (.laload, 1) := by decide +kernel
theorem dX8_work_71 : decode cX8_work 71 = .ok (.invokevirtual 308, 3) := by decide +kernel
theorem dX8_work_74 : decode cX8_work 74 = .ok (.lmul, 1) := by decide +kernel
theorem dX8_work_75 : decode cX8_work 75 = .ok (.goto 4, 3) := by decide +kernel
theorem dX8_work_78 : decode cX8_work 78 = .ok (.lconst 0, 1) := by decide +kernel
theorem dX8_work_79 : decode cX8_work 79 = .ok (.ladd, 1) := by decide +kernel
theorem dX8_work_80 : decode cX8_work 80 = .ok (.lstore_n 1, 1) := by decide +kernel
theorem dX8_work_81 : decode cX8_work 81 = .ok (.iinc 3 1, 3) := by decide +kernel
theorem dX8_work_84 : decode cX8_work 84 = .ok (.goto (-54), 3) := by decide +kernel
theorem dX8_work_87 : decode cX8_work 87 = .ok (.lload_n 1, 1) := by decide +kernel
theorem dX8_work_88 : decode cX8_work 88 = .ok (.lreturn, 1) := by decide +kernel
theorem dX8_solvesWith_0 : decode cX8_solvesWith 0 = .ok (.aload_n 0, 1) := by decide +kernel
theorem dX8_solvesWith_1 : decode cX8_solvesWith 1 = .ok (.iload_n 1, 1) := by decide +kernel
theorem dX8_solvesWith_2 : decode cX8_solvesWith 2 = .ok (.putfield 74, 3) := by decide +kernel
theorem dX8_solvesWith_5 : decode cX8_solvesWith 5 = .ok (.aload_n 0, 1) := by decide +kernel
theorem dX8_solvesWith_6 : decode cX8_solvesWith 6 = .ok (.iload_n 2, 1) := by decide +kernel
theorem dX8_solvesWith_7 : decode cX8_solvesWith 7 = .ok (.putfield 301, 3) := by decide +kernel
theorem dX8_solvesWith_10 : decode cX8_solvesWith 10 = .ok (.aload_n 0, 1) := by decide +kernel
theorem dX8_solvesWith_11 : decode cX8_solvesWith 11 = .ok (.invokevirtual 260, 3) := by decide +kernel
theorem dX8_solvesWith_14 : decode cX8_solvesWith 14 = .ok (.return_, 1) := by decide +kernel
theorem dX8_solvesAgain_0 : decode cX8_solvesAgain 0 = .ok (.aload_n 0, 1) := by decide +kernel
theorem dX8_solvesAgain_1 : decode cX8_solvesAgain 1 = .ok (.iconst (-1), 1) := by decide +kernel
theorem dX8_solvesAgain_2 : decode cX8_solvesAgain 2 = .ok (.putfield 74, 3) := by decide +kernel
theorem dX8_solvesAgain_5 : decode cX8_solvesAgain 5 = .ok (.aload_n 0, 1) := by decide +kernel
theorem dX8_solvesAgain_6 : decode cX8_solvesAgain 6 = .ok (.invokevirtual 260, 3) := by decide +kernel
theorem dX8_solvesAgain_9 : decode cX8_solvesAgain 9 = .ok (.return_, 1) := by decide +kernel
theorem dX8_isEnough_0 : decode cX8_isEnough 0 = .ok (.aload_n 0, 1) := by decide +kernel
theorem dX8_isEnough_1 : decode cX8_isEnough 1 = .ok (.invokevirtual 413, 3) := by decide +kernel
theorem dX8_isEnough_4 : decode cX8_isEnough 4 = .ok (.istore_n 2, 1) := by decide +kernel
theorem dX8_isEnough_5 : decode cX8_isEnough 5 = .ok (.aload_n 0, 1) := by decide +kernel
theorem dX8_isEnough_6 : decode cX8_isEnough 6 = .ok (.invokevirtual 391, 3) := by decide +kernel
theorem dX8_isEnough_9 : decode cX8_isEnough 9 = .ok (.ifCond .ne 18, 3) := by decide +kernel
theorem dX8_isEnough_12 : decode cX8_isEnough 12 = .ok (.aload_n 0, 1) := by decide +kernel
theorem dX8_isEnough_13 : decode cX8_isEnough 13 = .ok (.iload_n 2, 1) := by decide +kernel
theorem dX8_isEnough_14 : decode cX8_isEnough 14 = .ok (.invokevirtual 410, 3) := by decide +kernel
theorem dX8_isEnough_17 : decode cX8_isEnough 17 = .ok (.iload_n 1, 1) := by decide +kernel
theorem dX8_isEnough_18 : decode cX8_isEnough 18 = .ok (.i2l, 1) := by decide +kernel
theorem dX8_isEnough_19 : decode cX8_isEnough 19 = .ok (.lcmp, 1) := by decide +kernel
theorem dX8_isEnough_20 : decode cX8_isEnough 20 = .ok (.ifCond .lt 7, 3) := by decide +kernel
theorem dX8_isEnough_23 : decode cX8_isEnough 23 = .ok (.iconst 1, 1) := by decide +kernel
theorem dX8_isEnough_24 : decode cX8_isEnough 24 = .ok (.goto 4, 3) := by decide +kernel
theorem dX8_isEnough_27 : decode cX8_isEnough 27 = .ok (.iconst 0, 1) := by decide +kernel
theorem dX8_isEnough_28 : decode cX8_isEnough 28 = .ok (.ireturn, 1) := by decide +kernel
theorem dX8_fire_0 : decode cX8_fire 0 = .ok (.aload_n 0, 1) := by decide +kernel
theorem dX8_fire_1 : decode cX8_fire 1 = .ok (.aload_n 0, 1) := by decide +kernel
theorem dX8_fire_2 : decode cX8_fire 2 = .ok (.iload_n 1, 1) := by decide +kernel
theorem dX8_fire_3 : decode cX8_fire 3 = .ok (.invokevirtual 421, 3) := by decide +kernel
theorem dX8_fire_6 : decode cX8_fire 6 = .ok (.iload_n 2, 1) := by decide +kernel
theorem dX8_fire_7 : decode cX8_fire 7 = .ok (.i2l, 1) := by decide +kernel
theorem dX8_fire_8 : decode cX8_fire 8 = .ok (.ldc2_w 424, 3) := by decide +kernel
theorem dX8_fire_11 : decode cX8_fire 11 = .ok (.ldc2_w 426, 3) := by decide +kernel
theorem dX8_fire_14 : decode cX8_fire 14 = .ok (.invokestatic 131, 3) := by decide +kernel
theorem dX8_fire_17 : decode cX8_fire 17 = .ok (.invokestatic 241, 3) := by decide +kernel
theorem dX8_fire_20 : decode cX8_fire 20 = .ok (.invokevirtual 245, 3) := by decide +kernel
theorem dX8_fire_23 : decode cX8_fire 23 = .ok (.ifCond .eq 5, 3) := by decide +kernel
theorem dX8_fire_26 : decode cX8_fire 26 = .ok (.iconst (-1), 1) := by decide +kernel
theorem dX8_fire_27 : decode cX8_fire 27 = .ok (.ireturn, 1) := by decide +kernel
theorem dX8_fire_28 : decode cX8_fire 28 = .ok (.bipush (-2), 2) := by decide +kernel
theorem dX8_fire_30 : decode cX8_fire 30 = .ok (.istore_n 3, 1) := by decide +kernel
theorem dX8_fire_31 : decode cX8_fire 31 = .ok (.bipush 60, 2) := by decide +kernel
theorem dX8_fire_33 : decode cX8_fire 33 = .ok (.istore 4, 2) := by decide +kernel
theorem dX8_fire_35 : decode cX8_fire 35 = .ok (.iload 4, 2) := by decide +kernel
theorem dX8_fire_37 : decode cX8_fire 37 = .ok (.ifCond .lt 38, 3) := by decide +kernel
theorem dX8_fire_40 : decode cX8_fire 40 = .ok (.iload_n 3, 1) := by decide +kernel
theorem dX8_fire_41 : decode cX8_fire 41 = .ok (.bipush (-2), 2) := by decide +kernel
theorem dX8_fire_43 : decode cX8_fire 43 = .ok (.if_icmp .ne 32, 3) := by decide +kernel
theorem dX8_fire_46 : decode cX8_fire 46 = .ok (.aload_n 0, 1) := by decide +kernel
theorem dX8_fire_47 : decode cX8_fire 47 = .ok (.iload_n 1, 1) := by decide +kernel
theorem dX8_fire_48 : decode cX8_fire 48 = .ok (.iload 4, 2) := by decide +kernel
theorem dX8_fire_50 : decode cX8_fire 50 = .ok (.invokevirtual 428, 3) := by decide +kernel
theorem dX8_fire_53 : decode cX8_fire 53 = .ok (.aload_n 0, 1) := by decide +kernel
theorem dX8_fire_54 : decode cX8_fire 54 = .ok (.iload_n 2, 1) := by decide +kernel
theorem dX8_fire_55 : decode cX8_fire 55 = .ok (.invokevirtual 432, 3) := by decide +kernel
theorem dX8_fire_58 : decode cX8_fire 58 = .ok (.ifCond .eq 8, 3) := by decide +kernel
theorem dX8_fire_61 : decode cX8_fire 61 = .ok (.iload 4, 2) := by decide +kernel
theorem dX8_fire_63 : decode cX8_fire 63 = .ok (.goto 5, 3) := by decide +kernel
theorem dX8_fire_66 : decode cX8_fire 66 = .ok (.bipush (-2), 2) := by decide +kernel
theorem dX8_fire_68 : decode cX8_fire 68 = .ok (.istore_n 3, 1) := by decide +kernel
theorem dX8_fire_69 : decode cX8_fire 69 = .ok (.iinc 4 (-1), 3) := by decide +kernel
theorem dX8_fire_72 : decode cX8_fire 72 = .ok (.goto (-37), 3) := by decide +kernel
theorem dX8_fire_75 : decode cX8_fire 75 = .ok (.aload_n 0, 1) := by decide +kernel
theorem dX8_fire_76 : decode cX8_fire 76 = .ok (.invokevirtual 435, 3) := by decide +kernel
theorem dX8_fire_79 : decode cX8_fire 79 = .ok (.iload_n 3, 1) := by decide +kernel
theorem dX8_fire_80 : decode cX8_fire 80 = .ok (.ireturn, 1) := by decide +kernel
theorem dX8_solvesShared_0 : decode cX8_solvesShared 0 = .ok (.aload_n 0, 1) := by decide +kernel
theorem dX8_solvesShared_1 : decode cX8_solvesShared 1 = .ok (.iload_n 1, 1) := by decide +kernel
theorem dX8_solvesShared_2 : decode cX8_solvesShared 2 = .ok (.putfield 77, 3) := by decide +kernel
theorem dX8_solvesShared_5 : decode cX8_solvesShared 5 = .ok (.aload_n 0, 1) := by decide +kernel
theorem dX8_solvesShared_6 : decode cX8_solvesShared 6 = .ok (.invokevirtual 260, 3) := by decide +kernel
theorem dX8_solvesShared_9 : decode cX8_solvesShared 9 = .ok (.aload_n 0, 1) := by decide +kernel
theorem dX8_solvesShared_10 : decode cX8_solvesShared 10 = .ok (.bipush 100, 2) := by decide +kernel
theorem dX8_solvesShared_12 : decode cX8_solvesShared 12 = .ok (.putfield 77, 3) := by decide +kernel
theorem dX8_solvesShared_15 : decode cX8_solvesShared 15 = .ok (.return_, 1) := by decide +kernel
theorem dX8_scaled_0 : decode cX8_scaled 0 = .ok (.aload_n 0, 1) := by decide +kernel
theorem dX8_scaled_1 : decode cX8_scaled 1 = .ok (.aload_n 0, 1) := by decide +kernel
theorem dX8_scaled_2 : decode cX8_scaled 2 = .ok (.getfield 229, 3) := by decide +kernel
theorem dX8_scaled_5 : decode cX8_scaled 5 = .ok (.ifCond .le 7, 3) := by decide +kernel
theorem dX8_scaled_8 : decode cX8_scaled 8 = .ok (.iconst 1, 1) := by decide +kernel
theorem dX8_scaled_9 : decode cX8_scaled 9 = .ok (.goto 4, 3) := by decide +kernel
theorem dX8_scaled_12 : decode cX8_scaled 12 = .ok (.iconst 0, 1) := by decide +kernel
theorem dX8_scaled_13 : decode cX8_scaled 13 = .ok (.iload_n 1, 1) := by decide +kernel
theorem dX8_scaled_14 : decode cX8_scaled 14 = .ok (.i2l, 1) := by decide +kernel
theorem dX8_scaled_15 : decode cX8_scaled 15 = .ok (.lconst 0, 1) := by decide +kernel
theorem dX8_scaled_16 : decode cX8_scaled 16 = .ok (.ldc2_w 438, 3) := by decide +kernel
theorem dX8_scaled_19 : decode cX8_scaled 19 = .ok (.invokestatic 131, 3) := by decide +kernel
theorem dX8_scaled_22 : decode cX8_scaled 22 = .ok (.invokestatic 241, 3) := by decide +kernel
theorem dX8_scaled_25 : decode cX8_scaled 25 = .ok (.invokevirtual 245, 3) := by decide +kernel
theorem dX8_scaled_28 : decode cX8_scaled 28 = .ok (.ifCond .eq 7, 3) := by decide +kernel
theorem dX8_scaled_31 : decode cX8_scaled 31 = .ok (.ldc2_w 102, 3) := by decide +kernel
theorem dX8_scaled_34 : decode cX8_scaled 34 = .ok (.lreturn, 1) := by decide +kernel
theorem dX8_scaled_35 : decode cX8_scaled 35 = .ok (.aload_n 0, 1) := by decide +kernel
theorem dX8_scaled_36 : decode cX8_scaled 36 = .ok (.iload_n 1, 1) := by decide +kernel
theorem dX8_scaled_37 : decode cX8_scaled 37 = .ok (.invokevirtual 440, 3) := by decide +kernel
theorem dX8_scaled_40 : decode cX8_scaled 40 = .ok (.aload_n 0, 1) := by decide +kernel
theorem dX8_scaled_41 : decode cX8_scaled 41 = .ok (.invokevirtual 391, 3) := by decide +kernel
theorem dX8_scaled_44 : decode cX8_scaled 44 = .ok (.ifCond .eq 7, 3) := by decide +kernel
theorem dX8_scaled_47 : decode cX8_scaled 47 = .ok (.iconst 1, 1) := by decide +kernel
theorem dX8_scaled_48 : decode cX8_scaled 48 = .ok (.goto 4, 3) := by decide +kernel
theorem dX8_scaled_51 : decode cX8_scaled 51 = .ok (.iconst 0, 1) := by decide +kernel
theorem dX8_scaled_52 : decode cX8_scaled 52 = .ok (.istore_n 2, 1) := by decide +kernel
theorem dX8_scaled_53 : decode cX8_scaled 53 = .ok (.iload_n 2, 1) := by decide +kernel
theorem dX8_scaled_54 : decode cX8_scaled 54 = .ok (.ifCond .eq 7, 3) := by decide +kernel
theorem dX8_scaled_57 : decode cX8_scaled 57 = .ok (.lconst 0, 1) := by decide +kernel
theorem dX8_scaled_58 : decode cX8_scaled 58 = .ok (.goto 11, 3) := by decide +kernel
theorem dX8_scaled_61 : decode cX8_scaled 61 = .ok (.aload_n 0, 1) := by decide +kernel
theorem dX8_scaled_62 : decode cX8_scaled 62 = .ok (.aload_n 0, 1) := by decide +kernel
theorem dX8_scaled_63 : decode cX8_scaled 63 = .ok (.invokevirtual 413, 3) := by decide +kernel
theorem dX8_scaled_66 : decode cX8_scaled 66 = .ok (.invokevirtual 410, 3) := by decide +kernel
theorem dX8_scaled_69 : decode cX8_scaled 69 = .ok (.lstore_n 3, 1) := by decide +kernel
theorem dX8_scaled_70 : decode cX8_scaled 70 = .ok (.aload_n 0, 1) := by decide +kernel
theorem dX8_scaled_71 : decode cX8_scaled 71 = .ok (.invokevirtual 260, 3) := by decide +kernel
theorem dX8_scaled_74 : decode cX8_scaled 74 = .ok (.iload_n 2, 1) := by decide +kernel
theorem dX8_scaled_75 : decode cX8_scaled 75 = .ok (.ifCond .eq 11, 3) := by decide +kernel
theorem dX8_scaled_78 : decode cX8_scaled 78 = .ok (.aload_n 0, 1) := by decide +kernel
theorem dX8_scaled_79 : decode cX8_scaled 79 = .ok (.iconst 5, 1) := by decide +kernel
theorem dX8_scaled_80 : decode cX8_scaled 80 = .ok (.invokevirtual 407, 3) := by decide +kernel
theorem dX8_scaled_83 : decode cX8_scaled 83 = .ok (.goto 4, 3) := by decide +kernel
theorem dX8_scaled_86 : decode cX8_scaled 86 = .ok (.lload_n 3, 1) := by decide +kernel
theorem dX8_scaled_87 : decode cX8_scaled 87 = .ok (.lreturn, 1) := by decide +kernel
theorem dX8_most_0 : decode cX8_most 0 = .ok (.aload_n 0, 1) := by decide +kernel
theorem dX8_most_1 : decode cX8_most 1 = .ok (.aload_n 0, 1) := by decide +kernel
theorem dX8_most_2 : decode cX8_most 2 = .ok (.getfield 229, 3) := by decide +kernel
theorem dX8_most_5 : decode cX8_most 5 = .ok (.ifCond .le 7, 3) := by decide +kernel
theorem dX8_most_8 : decode cX8_most 8 = .ok (.iconst 1, 1) := by decide +kernel
theorem dX8_most_9 : decode cX8_most 9 = .ok (.goto 4, 3) := by decide +kernel
theorem dX8_most_12 : decode cX8_most 12 = .ok (.iconst 0, 1) := by decide +kernel
theorem dX8_most_13 : decode cX8_most 13 = .ok (.iload_n 1, 1) := by decide +kernel
theorem dX8_most_14 : decode cX8_most 14 = .ok (.i2l, 1) := by decide +kernel
theorem dX8_most_15 : decode cX8_most 15 = .ok (.ldc2_w 424, 3) := by decide +kernel
theorem dX8_most_18 : decode cX8_most 18 = .ok (.ldc2_w 426, 3) := by decide +kernel
theorem dX8_most_21 : decode cX8_most 21 = .ok (.invokestatic 131, 3) := by decide +kernel
theorem dX8_most_24 : decode cX8_most 24 = .ok (.invokestatic 241, 3) := by decide +kernel
theorem dX8_most_27 : decode cX8_most 27 = .ok (.invokevirtual 245, 3) := by decide +kernel
theorem dX8_most_30 : decode cX8_most 30 = .ok (.ifCond .eq 5, 3) := by decide +kernel
theorem dX8_most_33 : decode cX8_most 33 = .ok (.iconst (-1), 1) := by decide +kernel
theorem dX8_most_34 : decode cX8_most 34 = .ok (.ireturn, 1) := by decide +kernel
theorem dX8_most_35 : decode cX8_most 35 = .ok (.bipush (-2), 2) := by decide +kernel
theorem dX8_most_37 : decode cX8_most 37 = .ok (.istore_n 2, 1) := by decide +kernel
theorem dX8_most_38 : decode cX8_most 38 = .ok (.sipush 300, 3) := by decide +kernel
theorem dX8_most_41 : decode cX8_most 41 = .ok (.istore_n 3, 1) := by decide +kernel
theorem dX8_most_42 : decode cX8_most 42 = .ok (.iload_n 3, 1) := by decide +kernel
theorem dX8_most_43 : decode cX8_most 43 = .ok (.ifCond .lt 35, 3) := by decide +kernel
theorem dX8_most_46 : decode cX8_most 46 = .ok (.iload_n 2, 1) := by decide +kernel
theorem dX8_most_47 : decode cX8_most 47 = .ok (.bipush (-2), 2) := by decide +kernel
theorem dX8_most_49 : decode cX8_most 49 = .ok (.if_icmp .ne 29, 3) := by decide +kernel
theorem dX8_most_52 : decode cX8_most 52 = .ok (.aload_n 0, 1) := by decide +kernel
theorem dX8_most_53 : decode cX8_most 53 = .ok (.iload_n 3, 1) := by decide +kernel
theorem dX8_most_54 : decode cX8_most 54 = .ok (.invokevirtual 440, 3) := by decide +kernel
theorem dX8_most_57 : decode cX8_most 57 = .ok (.aload_n 0, 1) := by decide +kernel
theorem dX8_most_58 : decode cX8_most 58 = .ok (.iload_n 1, 1) := by decide +kernel
theorem dX8_most_59 : decode cX8_most 59 = .ok (.invokevirtual 432, 3) := by decide +kernel
theorem dX8_most_62 : decode cX8_most 62 = .ok (.ifCond .eq 7, 3) := by decide +kernel
theorem dX8_most_65 : decode cX8_most 65 = .ok (.iload_n 3, 1) := by decide +kernel
theorem dX8_most_66 : decode cX8_most 66 = .ok (.goto 5, 3) := by decide +kernel
theorem dX8_most_69 : decode cX8_most 69 = .ok (.bipush (-2), 2) := by decide +kernel
theorem dX8_most_71 : decode cX8_most 71 = .ok (.istore_n 2, 1) := by decide +kernel
theorem dX8_most_72 : decode cX8_most 72 = .ok (.iinc 3 (-1), 3) := by decide +kernel
theorem dX8_most_75 : decode cX8_most 75 = .ok (.goto (-33), 3) := by decide +kernel
theorem dX8_most_78 : decode cX8_most 78 = .ok (.aload_n 0, 1) := by decide +kernel
theorem dX8_most_79 : decode cX8_most 79 = .ok (.invokevirtual 260, 3) := by decide +kernel
theorem dX8_most_82 : decode cX8_most 82 = .ok (.iload_n 2, 1) := by decide +kernel
theorem dX8_most_83 : decode cX8_most 83 = .ok (.ireturn, 1) := by decide +kernel
theorem dX8_pairs_0 : decode cX8_pairs 0 = .ok (.aload_n 0, 1) := by decide +kernel
theorem dX8_pairs_1 : decode cX8_pairs 1 = .ok (.invokevirtual 443, 3) := by decide +kernel
theorem dX8_pairs_4 : decode cX8_pairs 4 = .ok (.istore_n 1, 1) := by decide +kernel
theorem dX8_pairs_5 : decode cX8_pairs 5 = .ok (.aload_n 0, 1) := by decide +kernel
theorem dX8_pairs_6 : decode cX8_pairs 6 = .ok (.getfield 99, 3) := by decide +kernel
theorem dX8_pairs_9 : decode cX8_pairs 9 = .ok (.ifCond .eq 5, 3) := by decide +kernel
theorem dX8_pairs_12 : decode cX8_pairs 12 = .ok (.iconst (-1), 1) := by decide +kernel
theorem dX8_pairs_13 : decode cX8_pairs 13 = .ok (.ireturn, 1) := by decide +kernel
theorem dX8_pairs_14 : decode cX8_pairs 14 = .ok (.aload_n 0, 1) := by decide +kernel
theorem dX8_pairs_15 : decode cX8_pairs 15 = .ok (.invokevirtual 391, 3) := by decide +kernel
theorem dX8_pairs_18 : decode cX8_pairs 18 = .ok (.istore_n 2, 1) := by decide +kernel
theorem dX8_pairs_19 : decode cX8_pairs 19 = .ok (.iload_n 1, 1) := by decide +kernel
theorem dX8_pairs_20 : decode cX8_pairs 20 = .ok (.aload_n 0, 1) := by decide +kernel
theorem dX8_pairs_21 : decode cX8_pairs 21 = .ok (.getfield 235, 3) := by decide +kernel
theorem dX8_pairs_24 : decode cX8_pairs 24 = .ok (.ior, 1) := by decide +kernel
theorem dX8_pairs_25 : decode cX8_pairs 25 = .ok (.istore_n 3, 1) := by decide +kernel
theorem dX8_pairs_26 : decode cX8_pairs 26 = .ok (.iconst 0, 1) := by decide +kernel
theorem dX8_pairs_27 : decode cX8_pairs 27 = .ok (.istore 4, 2) := by decide +kernel
theorem dX8_pairs_29 : decode cX8_pairs 29 = .ok (.iconst 0, 1) := by decide +kernel
theorem dX8_pairs_30 : decode cX8_pairs 30 = .ok (.istore 5, 2) := by decide +kernel
theorem dX8_pairs_32 : decode cX8_pairs 32 = .ok (.iload 5, 2) := by decide +kernel
theorem dX8_pairs_34 : decode cX8_pairs 34 = .ok (.aload_n 0, 1) := by decide +kernel
theorem dX8_pairs_35 : decode cX8_pairs 35 = .ok (.getfield 232, 3) := by decide +kernel
theorem dX8_pairs_38 : decode cX8_pairs 38 = .ok (.if_icmp .ge 85, 3) := by decide +kernel
theorem dX8_pairs_41 : decode cX8_pairs 41 = .ok (.iconst 0, 1) := by decide +kernel
theorem dX8_pairs_42 : decode cX8_pairs 42 = .ok (.istore 6, 2) := by decide +kernel
theorem dX8_pairs_44 : decode cX8_pairs 44 = .ok (.iload 6, 2) := by decide +kernel
theorem dX8_pairs_46 : decode cX8_pairs 46 = .ok (.iload 5, 2) := by decide +kernel
theorem dX8_pairs_48 : decode cX8_pairs 48 = .ok (.if_icmp .ge 69, 3) := by decide +kernel
theorem dX8_pairs_51 : decode cX8_pairs 51 = .ok (.iload_n 3, 1) := by decide +kernel
theorem dX8_pairs_52 : decode cX8_pairs 52 = .ok (.iload 5, 2) := by decide +kernel
theorem dX8_pairs_54 : decode cX8_pairs 54 = .ok (.ishr, 1) := by decide +kernel
theorem dX8_pairs_55 : decode cX8_pairs 55 = .ok (.iconst 1, 1) := by decide +kernel
theorem dX8_pairs_56 : decode cX8_pairs 56 = .ok (.iand, 1) := by decide +kernel
theorem dX8_pairs_57 : decode cX8_pairs 57 = .ok (.ifCond .ne 16, 3) := by decide +kernel
theorem dX8_pairs_60 : decode cX8_pairs 60 = .ok (.iload_n 3, 1) := by decide +kernel
theorem dX8_pairs_61 : decode cX8_pairs 61 = .ok (.iload 6, 2) := by decide +kernel
theorem dX8_pairs_63 : decode cX8_pairs 63 = .ok (.ishr, 1) := by decide +kernel
theorem dX8_pairs_64 : decode cX8_pairs 64 = .ok (.iconst 1, 1) := by decide +kernel
theorem dX8_pairs_65 : decode cX8_pairs 65 = .ok (.iand, 1) := by decide +kernel
theorem dX8_pairs_66 : decode cX8_pairs 66 = .ok (.ifCond .ne 7, 3) := by decide +kernel
theorem dX8_pairs_69 : decode cX8_pairs 69 = .ok (.iconst 1, 1) := by decide +kernel
theorem dX8_pairs_70 : decode cX8_pairs 70 = .ok (.goto 4, 3) := by decide +kernel
theorem dX8_pairs_73 : decode cX8_pairs 73 = .ok (.iconst 0, 1) := by decide +kernel
theorem dX8_pairs_74 : decode cX8_pairs 74 = .ok (.istore 7, 2) := by decide +kernel
theorem dX8_pairs_76 : decode cX8_pairs 76 = .ok (.iload 4, 2) := by decide +kernel
theorem dX8_pairs_78 : decode cX8_pairs 78 = .ok (.iload 7, 2) := by decide +kernel
theorem dX8_pairs_80 : decode cX8_pairs 80 = .ok (.ifCond .eq 27, 3) := by decide +kernel
theorem dX8_pairs_83 : decode cX8_pairs 83 = .ok (.aload_n 0, 1) := by decide +kernel
theorem dX8_pairs_84 : decode cX8_pairs 84 = .ok (.iconst 1, 1) := by decide +kernel
theorem dX8_pairs_85 : decode cX8_pairs 85 = .ok (.iload 5, 2) := by decide +kernel
theorem dX8_pairs_87 : decode cX8_pairs 87 = .ok (.ishl, 1) := by decide +kernel
theorem dX8_pairs_88 : decode cX8_pairs 88 = .ok (.iconst 1, 1) := by decide +kernel
theorem dX8_pairs_89 : decode cX8_pairs 89 = .ok (.iload 6, 2) := by decide +kernel
theorem dX8_pairs_91 : decode cX8_pairs 91 = .ok (.ishl, 1) := by decide +kernel
theorem dX8_pairs_92 : decode cX8_pairs 92 = .ok (.ior, 1) := by decide +kernel
theorem dX8_pairs_93 : decode cX8_pairs 93 = .ok (.invokevirtual 446, 3) := by decide +kernel
theorem dX8_pairs_96 : decode cX8_pairs 96 = .ok (.iload_n 2, 1) := by decide +kernel
theorem dX8_pairs_97 : decode cX8_pairs 97 = .ok (.iconst (-1), 1) := by decide +kernel
theorem dX8_pairs_98 : decode cX8_pairs 98 = .ok (.ixor, 1) := by decide +kernel
theorem dX8_pairs_99 : decode cX8_pairs 99 = .ok (.iand, 1) := by decide +kernel
theorem dX8_pairs_100 : decode cX8_pairs 100 = .ok (.ifCond .eq 7, 3) := by decide +kernel
theorem dX8_pairs_103 : decode cX8_pairs 103 = .ok (.iconst 1, 1) := by decide +kernel
theorem dX8_pairs_104 : decode cX8_pairs 104 = .ok (.goto 4, 3) := by decide +kernel
theorem dX8_pairs_107 : decode cX8_pairs 107 = .ok (.iconst 0, 1) := by decide +kernel
theorem dX8_pairs_108 : decode cX8_pairs 108 = .ok (.iadd, 1) := by decide +kernel
theorem dX8_pairs_109 : decode cX8_pairs 109 = .ok (.istore 4, 2) := by decide +kernel
theorem dX8_pairs_111 : decode cX8_pairs 111 = .ok (.iinc 6 1, 3) := by decide +kernel
theorem dX8_pairs_114 : decode cX8_pairs 114 = .ok (.goto (-70), 3) := by decide +kernel
theorem dX8_pairs_117 : decode cX8_pairs 117 = .ok (.iinc 5 1, 3) := by decide +kernel
theorem dX8_pairs_120 : decode cX8_pairs 120 = .ok (.goto (-88), 3) := by decide +kernel
theorem dX8_pairs_123 : decode cX8_pairs 123 = .ok (.iload 4, 2) := by decide +kernel
theorem dX8_pairs_125 : decode cX8_pairs 125 = .ok (.ireturn, 1) := by decide +kernel
theorem dX8_dryWithout_0 : decode cX8_dryWithout 0 = .ok (.aload_n 0, 1) := by decide +kernel
theorem dX8_dryWithout_1 : decode cX8_dryWithout 1 = .ok (.iconst 1, 1) := by decide +kernel
theorem dX8_dryWithout_2 : decode cX8_dryWithout 2 = .ok (.iload_n 1, 1) := by decide +kernel
theorem dX8_dryWithout_3 : decode cX8_dryWithout 3 = .ok (.ishl, 1) := by decide +kernel
theorem dX8_dryWithout_4 : decode cX8_dryWithout 4 = .ok (.invokevirtual 446, 3) := by decide +kernel
theorem dX8_dryWithout_7 : decode cX8_dryWithout 7 = .ok (.ireturn, 1) := by decide +kernel
theorem dX8_dryWithoutAll_0 : decode cX8_dryWithoutAll 0 = .ok (.aload_n 0, 1) := by decide +kernel
theorem dX8_dryWithoutAll_1 : decode cX8_dryWithoutAll 1 = .ok (.getfield 235, 3) := by decide +kernel
theorem dX8_dryWithoutAll_4 : decode cX8_dryWithoutAll 4 = .ok (.istore_n 2, 1) := by decide +kernel
theorem dX8_dryWithoutAll_5 : decode cX8_dryWithoutAll 5 = .ok (.aload_n 0, 1) := by decide +kernel
theorem dX8_dryWithoutAll_6 : decode cX8_dryWithoutAll 6 = .ok (.dup, 1) := by decide +kernel
theorem dX8_dryWithoutAll_7 : decode cX8_dryWithoutAll 7 = .ok (.getfield 235, 3) := by decide +kernel
theorem dX8_dryWithoutAll_10 : decode cX8_dryWithoutAll 10 = .ok (.iload_n 1, 1) := by decide +kernel
theorem dX8_dryWithoutAll_11 : decode cX8_dryWithoutAll 11 = .ok (.ior, 1) := by decide +kernel
theorem dX8_dryWithoutAll_12 : decode cX8_dryWithoutAll 12 = .ok (.putfield 235, 3) := by decide +kernel
theorem dX8_dryWithoutAll_15 : decode cX8_dryWithoutAll 15 = .ok (.aload_n 0, 1) := by decide +kernel
theorem dX8_dryWithoutAll_16 : decode cX8_dryWithoutAll 16 = .ok (.invokevirtual 260, 3) := by decide +kernel
theorem dX8_dryWithoutAll_19 : decode cX8_dryWithoutAll 19 = .ok (.aload_n 0, 1) := by decide +kernel
theorem dX8_dryWithoutAll_20 : decode cX8_dryWithoutAll 20 = .ok (.invokevirtual 391, 3) := by decide +kernel
theorem dX8_dryWithoutAll_23 : decode cX8_dryWithoutAll 23 = .ok (.istore_n 3, 1) := by decide +kernel
theorem dX8_dryWithoutAll_24 : decode cX8_dryWithoutAll 24 = .ok (.aload_n 0, 1) := by decide +kernel
theorem dX8_dryWithoutAll_25 : decode cX8_dryWithoutAll 25 = .ok (.iload_n 2, 1) := by decide +kernel
theorem dX8_dryWithoutAll_26 : decode cX8_dryWithoutAll 26 = .ok (.putfield 235, 3) := by decide +kernel
theorem dX8_dryWithoutAll_29 : decode cX8_dryWithoutAll 29 = .ok (.aload_n 0, 1) := by decide +kernel
theorem dX8_dryWithoutAll_30 : decode cX8_dryWithoutAll 30 = .ok (.invokevirtual 260, 3) := by decide +kernel
theorem dX8_dryWithoutAll_33 : decode cX8_dryWithoutAll 33 = .ok (.iload_n 3, 1) := by decide +kernel
theorem dX8_dryWithoutAll_34 : decode cX8_dryWithoutAll 34 = .ok (.ireturn, 1) := by decide +kernel
theorem dX8_cut_0 : decode cX8_cut 0 = .ok (.aload_n 0, 1) := by decide +kernel
theorem dX8_cut_1 : decode cX8_cut 1 = .ok (.aload_n 0, 1) := by decide +kernel
theorem dX8_cut_2 : decode cX8_cut 2 = .ok (.iload_n 1, 1) := by decide +kernel
theorem dX8_cut_3 : decode cX8_cut 3 = .ok (.invokevirtual 317, 3) := by decide +kernel
theorem dX8_cut_6 : decode cX8_cut 6 = .ok (.invokestatic 330, 3) := by decide +kernel
theorem dX8_cut_9 : decode cX8_cut 9 = .ok (.invokevirtual 245, 3) := by decide +kernel
theorem dX8_cut_12 : decode cX8_cut 12 = .ok (.ifCond .eq 7, 3) := by decide +kernel
theorem dX8_cut_15 : decode cX8_cut 15 = .ok (.iconst (-1), 1) := by decide +kernel
theorem dX8_cut_16 : decode cX8_cut 16 = .ok (.goto 8, 3) := by decide +kernel
theorem dX8_cut_19 : decode cX8_cut 19 = .ok (.aload_n 0, 1) := by decide +kernel
theorem dX8_cut_20 : decode cX8_cut 20 = .ok (.iload_n 1, 1) := by decide +kernel
theorem dX8_cut_21 : decode cX8_cut 21 = .ok (.invokevirtual 449, 3) := by decide +kernel
theorem dX8_cut_24 : decode cX8_cut 24 = .ok (.ireturn, 1) := by decide +kernel
theorem dX8_vital_0 : decode cX8_vital 0 = .ok (.aload_n 0, 1) := by decide +kernel
theorem dX8_vital_1 : decode cX8_vital 1 = .ok (.aload_n 0, 1) := by decide +kernel
theorem dX8_vital_2 : decode cX8_vital 2 = .ok (.getfield 229, 3) := by decide +kernel
theorem dX8_vital_5 : decode cX8_vital 5 = .ok (.ifCond .le 7, 3) := by decide +kernel
theorem dX8_vital_8 : decode cX8_vital 8 = .ok (.iconst 1, 1) := by decide +kernel
theorem dX8_vital_9 : decode cX8_vital 9 = .ok (.goto 4, 3) := by decide +kernel
theorem dX8_vital_12 : decode cX8_vital 12 = .ok (.iconst 0, 1) := by decide +kernel
theorem dX8_vital_13 : decode cX8_vital 13 = .ok (.invokestatic 330, 3) := by decide +kernel
theorem dX8_vital_16 : decode cX8_vital 16 = .ok (.invokevirtual 245, 3) := by decide +kernel
theorem dX8_vital_19 : decode cX8_vital 19 = .ok (.ifCond .eq 5, 3) := by decide +kernel
theorem dX8_vital_22 : decode cX8_vital 22 = .ok (.iconst (-1), 1) := by decide +kernel
theorem dX8_vital_23 : decode cX8_vital 23 = .ok (.ireturn, 1) := by decide +kernel
theorem dX8_vital_24 : decode cX8_vital 24 = .ok (.aload_n 0, 1) := by decide +kernel
theorem dX8_vital_25 : decode cX8_vital 25 = .ok (.invokevirtual 391, 3) := by decide +kernel
theorem dX8_vital_28 : decode cX8_vital 28 = .ok (.istore_n 1, 1) := by decide +kernel
theorem dX8_vital_29 : decode cX8_vital 29 = .ok (.iconst 0, 1) := by decide +kernel
theorem dX8_vital_30 : decode cX8_vital 30 = .ok (.istore_n 2, 1) := by decide +kernel
theorem dX8_vital_31 : decode cX8_vital 31 = .ok (.iconst 0, 1) := by decide +kernel
theorem dX8_vital_32 : decode cX8_vital 32 = .ok (.istore_n 3, 1) := by decide +kernel
theorem dX8_vital_33 : decode cX8_vital 33 = .ok (.iload_n 3, 1) := by decide +kernel
theorem dX8_vital_34 : decode cX8_vital 34 = .ok (.aload_n 0, 1) := by decide +kernel
theorem dX8_vital_35 : decode cX8_vital 35 = .ok (.getfield 232, 3) := by decide +kernel
theorem dX8_vital_38 : decode cX8_vital 38 = .ok (.if_icmp .ge 31, 3) := by decide +kernel
theorem dX8_vital_41 : decode cX8_vital 41 = .ok (.iload_n 2, 1) := by decide +kernel
theorem dX8_vital_42 : decode cX8_vital 42 = .ok (.aload_n 0, 1) := by decide +kernel
theorem dX8_vital_43 : decode cX8_vital 43 = .ok (.iload_n 3, 1) := by decide +kernel
theorem dX8_vital_44 : decode cX8_vital 44 = .ok (.invokevirtual 449, 3) := by decide +kernel
theorem dX8_vital_47 : decode cX8_vital 47 = .ok (.iload_n 1, 1) := by decide +kernel
theorem dX8_vital_48 : decode cX8_vital 48 = .ok (.iconst (-1), 1) := by decide +kernel
theorem dX8_vital_49 : decode cX8_vital 49 = .ok (.ixor, 1) := by decide +kernel
theorem dX8_vital_50 : decode cX8_vital 50 = .ok (.iand, 1) := by decide +kernel
theorem dX8_vital_51 : decode cX8_vital 51 = .ok (.ifCond .eq 9, 3) := by decide +kernel
theorem dX8_vital_54 : decode cX8_vital 54 = .ok (.iconst 1, 1) := by decide +kernel
theorem dX8_vital_55 : decode cX8_vital 55 = .ok (.iload_n 3, 1) := by decide +kernel
theorem dX8_vital_56 : decode cX8_vital 56 = .ok (.ishl, 1) := by decide +kernel
theorem dX8_vital_57 : decode cX8_vital 57 = .ok (.goto 4, 3) := by decide +kernel
theorem dX8_vital_60 : decode cX8_vital 60 = .ok (.iconst 0, 1) := by decide +kernel
theorem dX8_vital_61 : decode cX8_vital 61 = .ok (.ior, 1) := by decide +kernel
theorem dX8_vital_62 : decode cX8_vital 62 = .ok (.istore_n 2, 1) := by decide +kernel
theorem dX8_vital_63 : decode cX8_vital 63 = .ok (.iinc 3 1, 3) := by decide +kernel
theorem dX8_vital_66 : decode cX8_vital 66 = .ok (.goto (-33), 3) := by decide +kernel
theorem dX8_vital_69 : decode cX8_vital 69 = .ok (.iload_n 2, 1) := by decide +kernel
theorem dX8_vital_70 : decode cX8_vital 70 = .ok (.ireturn, 1) := by decide +kernel
theorem dX8_seeksWidest_0 : decode cX8_seeksWidest 0 = .ok (.aload_n 0, 1) := by decide +kernel
theorem dX8_seeksWidest_1 : decode cX8_seeksWidest 1 = .ok (.bipush (-2), 2) := by decide +kernel
theorem dX8_seeksWidest_3 : decode cX8_seeksWidest 3 = .ok (.putfield 452, 3) := by decide +kernel
theorem dX8_seeksWidest_6 : decode cX8_seeksWidest 6 = .ok (.aload_n 0, 1) := by decide +kernel
theorem dX8_seeksWidest_7 : decode cX8_seeksWidest 7 = .ok (.lconst 0, 1) := by decide +kernel
theorem dX8_seeksWidest_8 : decode cX8_seeksWidest 8 = .ok (.putfield 455, 3) := by decide +kernel
theorem dX8_seeksWidest_11 : decode cX8_seeksWidest 11 = .ok (.iconst 0, 1) := by decide +kernel
theorem dX8_seeksWidest_12 : decode cX8_seeksWidest 12 = .ok (.istore_n 1, 1) := by decide +kernel
theorem dX8_seeksWidest_13 : decode cX8_seeksWidest 13 = .ok (.iload_n 1, 1) := by decide +kernel
theorem dX8_seeksWidest_14 : decode cX8_seeksWidest 14 = .ok (.aload_n 0, 1) := by decide +kernel
theorem dX8_seeksWidest_15 : decode cX8_seeksWidest 15 = .ok (.getfield 232, 3) := by decide +kernel
theorem dX8_seeksWidest_18 : decode cX8_seeksWidest 18 = .ok (.if_icmp .ge 115, 3) := by decide +kernel
theorem dX8_seeksWidest_21 : decode cX8_seeksWidest 21 = .ok (.aload_n 0, 1) := by decide +kernel
theorem dX8_seeksWidest_22 : decode cX8_seeksWidest 22 = .ok (.getfield 34, 3) := by decide +kernel
theorem dX8_seeksWidest_25 : decode cX8_seeksWidest 25 = .ok (.iload_n 1, 1) := by decide +kernel
theorem dX8_seeksWidest_26 : decode cX8_seeksWidest 26 = .ok (.iaload, 1) := by decide +kernel
theorem dX8_seeksWidest_27 : decode cX8_seeksWidest 27 = .ok (.iconst 2, 1) := by decide +kernel
theorem dX8_seeksWidest_28 : decode cX8_seeksWidest 28 = .ok (.if_icmp .eq 99, 3) := by decide +kernel
theorem dX8_seeksWidest_31 : decode cX8_seeksWidest 31 = .ok (.aload_n 0, 1) := by decide +kernel
theorem dX8_seeksWidest_32 : decode cX8_seeksWidest 32 = .ok (.getfield 235, 3) := by decide +kernel
theorem dX8_seeksWidest_35 : decode cX8_seeksWidest 35 = .ok (.iload_n 1, 1) := by decide +kernel
theorem dX8_seeksWidest_36 : decode cX8_seeksWidest 36 = .ok (.ishr, 1) := by decide +kernel
theorem dX8_seeksWidest_37 : decode cX8_seeksWidest 37 = .ok (.iconst 1, 1) := by decide +kernel
theorem dX8_seeksWidest_38 : decode cX8_seeksWidest 38 = .ok (.iand, 1) := by decide +kernel
theorem dX8_seeksWidest_39 : decode cX8_seeksWidest 39 = .ok (.iconst 1, 1) := by decide +kernel
theorem dX8_seeksWidest_40 : decode cX8_seeksWidest 40 = .ok (.if_icmp .eq 87, 3) := by decide +kernel
theorem dX8_seeksWidest_43 : decode cX8_seeksWidest 43 = .ok (.aload_n 0, 1) := by decide +kernel
theorem dX8_seeksWidest_44 : decode cX8_seeksWidest 44 = .ok (.getfield 37, 3) := by decide +kernel
theorem dX8_seeksWidest_47 : decode cX8_seeksWidest 47 = .ok (.iload_n 1, 1) := by decide +kernel
theorem dX8_seeksWidest_48 : decode cX8_seeksWidest 48 = .ok (.iaload, 1) := by decide +kernel
theorem dX8_seeksWidest_49 : decode cX8_seeksWidest 49 = .ok (.iconst 2, 1) := by decide +kernel
theorem dX8_seeksWidest_50 : decode cX8_seeksWidest 50 = .ok (.if_icmp .ge 6, 3) := by decide +kernel
theorem dX8_seeksWidest_53 : decode cX8_seeksWidest 53 = .ok (.goto 74, 3) := by decide +kernel
theorem dX8_seeksWidest_56 : decode cX8_seeksWidest 56 = .ok (.aload_n 0, 1) := by decide +kernel
theorem dX8_seeksWidest_57 : decode cX8_seeksWidest 57 = .ok (.getfield 37, 3) := by decide +kernel
theorem dX8_seeksWidest_60 : decode cX8_seeksWidest 60 = .ok (.iload_n 1, 1) := by decide +kernel
theorem dX8_seeksWidest_61 : decode cX8_seeksWidest 61 = .ok (.dup2, 1) := by decide +kernel
theorem dX8_seeksWidest_62 : decode cX8_seeksWidest 62 = .ok (.iaload, 1) := by decide +kernel
theorem dX8_seeksWidest_63 : decode cX8_seeksWidest 63 = .ok (.iconst 1, 1) := by decide +kernel
theorem dX8_seeksWidest_64 : decode cX8_seeksWidest 64 = .ok (.isub, 1) := by decide +kernel
theorem dX8_seeksWidest_65 : decode cX8_seeksWidest 65 = .ok (.iastore, 1) := by decide +kernel
theorem dX8_seeksWidest_66 : decode cX8_seeksWidest 66 = .ok (.aload_n 0, 1) := by decide +kernel
theorem dX8_seeksWidest_67 : decode cX8_seeksWidest 67 = .ok (.invokevirtual 260, 3) := by decide +kernel
theorem dX8_seeksWidest_70 : decode cX8_seeksWidest 70 = .ok (.aload_n 0, 1) := by decide +kernel
theorem dX8_seeksWidest_71 : decode cX8_seeksWidest 71 = .ok (.invokevirtual 413, 3) := by decide +kernel
theorem dX8_seeksWidest_74 : decode cX8_seeksWidest 74 = .ok (.istore_n 2, 1) := by decide +kernel
theorem dX8_seeksWidest_75 : decode cX8_seeksWidest 75 = .ok (.iload_n 2, 1) := by decide +kernel
theorem dX8_seeksWidest_76 : decode cX8_seeksWidest 76 = .ok (.bipush (-2), 2) := by decide +kernel
theorem dX8_seeksWidest_78 : decode cX8_seeksWidest 78 = .ok (.if_icmp .eq 39, 3) := by decide +kernel
theorem dX8_seeksWidest_81 : decode cX8_seeksWidest 81 = .ok (.aload_n 0, 1) := by decide +kernel
theorem dX8_seeksWidest_82 : decode cX8_seeksWidest 82 = .ok (.getfield 452, 3) := by decide +kernel
theorem dX8_seeksWidest_85 : decode cX8_seeksWidest 85 = .ok (.bipush (-2), 2) := by decide +kernel
theorem dX8_seeksWidest_87 : decode cX8_seeksWidest 87 = .ok (.if_icmp .eq 16, 3) := by decide +kernel
theorem dX8_seeksWidest_90 : decode cX8_seeksWidest 90 = .ok (.aload_n 0, 1) := by decide +kernel
theorem dX8_seeksWidest_91 : decode cX8_seeksWidest 91 = .ok (.iload_n 2, 1) := by decide +kernel
theorem dX8_seeksWidest_92 : decode cX8_seeksWidest 92 = .ok (.invokevirtual 410, 3) := by decide +kernel
theorem dX8_seeksWidest_95 : decode cX8_seeksWidest 95 = .ok (.aload_n 0, 1) := by decide +kernel
theorem dX8_seeksWidest_96 : decode cX8_seeksWidest 96 = .ok (.getfield 455, 3) := by decide +kernel
theorem dX8_seeksWidest_99 : decode cX8_seeksWidest 99 = .ok (.lcmp, 1) := by decide +kernel
theorem dX8_seeksWidest_100 : decode cX8_seeksWidest 100 = .ok (.ifCond .le 17, 3) := by decide +kernel
theorem dX8_seeksWidest_103 : decode cX8_seeksWidest 103 = .ok (.aload_n 0, 1) := by decide +kernel
theorem dX8_seeksWidest_104 : decode cX8_seeksWidest 104 = .ok (.iload_n 1, 1) := by decide +kernel
theorem dX8_seeksWidest_105 : decode cX8_seeksWidest 105 = .ok (.putfield 452, 3) := by decide +kernel
theorem dX8_seeksWidest_108 : decode cX8_seeksWidest 108 = .ok (.aload_n 0, 1) := by decide +kernel
theorem dX8_seeksWidest_109 : decode cX8_seeksWidest 109 = .ok (.aload_n 0, 1) := by decide +kernel
theorem dX8_seeksWidest_110 : decode cX8_seeksWidest 110 = .ok (.iload_n 2, 1) := by decide +kernel
theorem dX8_seeksWidest_111 : decode cX8_seeksWidest 111 = .ok (.invokevirtual 410, 3) := by decide +kernel
theorem dX8_seeksWidest_114 : decode cX8_seeksWidest 114 = .ok (.putfield 455, 3) := by decide +kernel
theorem dX8_seeksWidest_117 : decode cX8_seeksWidest 117 = .ok (.aload_n 0, 1) := by decide +kernel
theorem dX8_seeksWidest_118 : decode cX8_seeksWidest 118 = .ok (.getfield 37, 3) := by decide +kernel
theorem dX8_seeksWidest_121 : decode cX8_seeksWidest 121 = .ok (.iload_n 1, 1) := by decide +kernel
theorem dX8_seeksWidest_122 : decode cX8_seeksWidest 122 = .ok (.dup2, 1) := by decide +kernel
theorem dX8_seeksWidest_123 : decode cX8_seeksWidest 123 = .ok (.iaload, 1) := by decide +kernel
theorem dX8_seeksWidest_124 : decode cX8_seeksWidest 124 = .ok (.iconst 1, 1) := by decide +kernel
theorem dX8_seeksWidest_125 : decode cX8_seeksWidest 125 = .ok (.iadd, 1) := by decide +kernel
theorem dX8_seeksWidest_126 : decode cX8_seeksWidest 126 = .ok (.iastore, 1) := by decide +kernel
theorem dX8_seeksWidest_127 : decode cX8_seeksWidest 127 = .ok (.iinc 1 1, 3) := by decide +kernel
theorem dX8_seeksWidest_130 : decode cX8_seeksWidest 130 = .ok (.goto (-117), 3) := by decide +kernel
theorem dX8_seeksWidest_133 : decode cX8_seeksWidest 133 = .ok (.aload_n 0, 1) := by decide +kernel
theorem dX8_seeksWidest_134 : decode cX8_seeksWidest 134 = .ok (.invokevirtual 260, 3) := by decide +kernel
theorem dX8_seeksWidest_137 : decode cX8_seeksWidest 137 = .ok (.return_, 1) := by decide +kernel
theorem dX8_widen_0 : decode cX8_widen 0 = .ok (.aload_n 0, 1) := by decide +kernel
theorem dX8_widen_1 : decode cX8_widen 1 = .ok (.aload_n 0, 1) := by decide +kernel
theorem dX8_widen_2 : decode cX8_widen 2 = .ok (.getfield 229, 3) := by decide +kernel
theorem dX8_widen_5 : decode cX8_widen 5 = .ok (.ifCond .le 7, 3) := by decide +kernel
theorem dX8_widen_8 : decode cX8_widen 8 = .ok (.iconst 1, 1) := by decide +kernel
theorem dX8_widen_9 : decode cX8_widen 9 = .ok (.goto 4, 3) := by decide +kernel
theorem dX8_widen_12 : decode cX8_widen 12 = .ok (.iconst 0, 1) := by decide +kernel
theorem dX8_widen_13 : decode cX8_widen 13 = .ok (.invokestatic 330, 3) := by decide +kernel
theorem dX8_widen_16 : decode cX8_widen 16 = .ok (.invokevirtual 245, 3) := by decide +kernel
theorem dX8_widen_19 : decode cX8_widen 19 = .ok (.ifCond .eq 5, 3) := by decide +kernel
theorem dX8_widen_22 : decode cX8_widen 22 = .ok (.iconst (-1), 1) := by decide +kernel
theorem dX8_widen_23 : decode cX8_widen 23 = .ok (.ireturn, 1) := by decide +kernel
theorem dX8_widen_24 : decode cX8_widen 24 = .ok (.aload_n 0, 1) := by decide +kernel
theorem dX8_widen_25 : decode cX8_widen 25 = .ok (.invokevirtual 459, 3) := by decide +kernel
theorem dX8_widen_28 : decode cX8_widen 28 = .ok (.aload_n 0, 1) := by decide +kernel
theorem dX8_widen_29 : decode cX8_widen 29 = .ok (.getfield 452, 3) := by decide +kernel
theorem dX8_widen_32 : decode cX8_widen 32 = .ok (.ireturn, 1) := by decide +kernel
theorem dX8_widened_0 : decode cX8_widened 0 = .ok (.aload_n 0, 1) := by decide +kernel
theorem dX8_widened_1 : decode cX8_widened 1 = .ok (.aload_n 0, 1) := by decide +kernel
theorem dX8_widened_2 : decode cX8_widened 2 = .ok (.getfield 229, 3) := by decide +kernel
theorem dX8_widened_5 : decode cX8_widened 5 = .ok (.ifCond .le 7, 3) := by decide +kernel
theorem dX8_widened_8 : decode cX8_widened 8 = .ok (.iconst 1, 1) := by decide +kernel
theorem dX8_widened_9 : decode cX8_widened 9 = .ok (.goto 4, 3) := by decide +kernel
theorem dX8_widened_12 : decode cX8_widened 12 = .ok (.iconst 0, 1) := by decide +kernel
theorem dX8_widened_13 : decode cX8_widened 13 = .ok (.invokestatic 330, 3) := by decide +kernel
theorem dX8_widened_16 : decode cX8_widened 16 = .ok (.invokevirtual 245, 3) := by decide +kernel
