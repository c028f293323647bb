theorem dX6_given_5 : decode cX6_given 5 = .ok (.aload_n 0, 1) := by decide +kernel
theorem dX6_given_6 : decode cX6_given 6 = .ok (.getfield 21, 3) := by decide +kernel
theorem dX6_given_9 : decode cX6_given 9 = .ok (.getfield 100, 3) := by decide +kernel
theorem dX6_given_12 : decode cX6_given 12 = .ok (.if_icmp .ge 29, 3) := by decide +kernel
theorem dX6_given_15 : decode cX6_given 15 = .ok (.iload_n 1, 1) := by decide +kernel
theorem dX6_given_16 : decode cX6_given 16 = .ok (.aload_n 0, 1) := by decide +kernel
theorem dX6_given_17 : decode cX6_given 17 = .ok (.getfield 12, 3) := by decide +kernel
theorem dX6_given_20 : decode cX6_given 20 = .ok (.getfield 109, 3) := by decide +kernel
theorem dX6_given_23 : decode cX6_given 23 = .ok (.aload_n 0, 1) := by decide +kernel
theorem dX6_given_24 : decode cX6_given 24 = .ok (.getfield 21, 3) := by decide +kernel
theorem dX6_given_27 : decode cX6_given 27 = .ok (.getfield 103, 3) := by decide +kernel
theorem dX6_given_30 : decode cX6_given 30 = .ok (.iload_n 2, 1) := by decide +kernel
theorem dX6_given_31 : decode cX6_given 31 = .ok (.iaload, 1) := by decide +kernel
theorem dX6_given_32 : decode cX6_given 32 = .ok (.iaload, 1) := by decide +kernel
theorem dX6_given_33 : decode cX6_given 33 = .ok (.iadd, 1) := by decide +kernel
theorem dX6_given_34 : decode cX6_given 34 = .ok (.istore_n 1, 1) := by decide +kernel
theorem dX6_given_35 : decode cX6_given 35 = .ok (.iinc 2 1, 3) := by decide +kernel
theorem dX6_given_38 : decode cX6_given 38 = .ok (.goto (-34), 3) := by decide +kernel
theorem dX6_given_41 : decode cX6_given 41 = .ok (.iload_n 1, 1) := by decide +kernel
theorem dX6_given_42 : decode cX6_given 42 = .ok (.ireturn, 1) := by decide +kernel
theorem dX6_pressureAt_0 : decode cX6_pressureAt 0 = .ok (.iload_n 1, 1) := by decide +kernel
theorem dX6_pressureAt_1 : decode cX6_pressureAt 1 = .ok (.ifCond .ne 7, 3) := by decide +kernel
theorem dX6_pressureAt_4 : decode cX6_pressureAt 4 = .ok (.lconst 0, 1) := by decide +kernel
theorem dX6_pressureAt_5 : decode cX6_pressureAt 5 = .ok (.goto 24, 3) := by decide +kernel
theorem dX6_pressureAt_8 : decode cX6_pressureAt 8 = .ok (.aload_n 0, 1) := by decide +kernel
theorem dX6_pressureAt_9 : decode cX6_pressureAt 9 = .ok (.getfield 36, 3) := by decide +kernel
theorem dX6_pressureAt_12 : decode cX6_pressureAt 12 = .ok (.iload_n 1, 1) := by decide +kernel
theorem dX6_pressureAt_13 : decode cX6_pressureAt 13 = .ok (.laload, 1) := by decide +kernel
theorem dX6_pressureAt_14 : decode cX6_pressureAt 14 = .ok (.ldc2_w 189, 3) := by decide +kernel
theorem dX6_pressureAt_17 : decode cX6_pressureAt 17 = .ok (.aload_n 0, 1) := by decide +kernel
theorem dX6_pressureAt_18 : decode cX6_pressureAt 18 = .ok (.getfield 12, 3) := by decide +kernel
theorem dX6_pressureAt_21 : decode cX6_pressureAt 21 = .ok (.getfield 217, 3) := by decide +kernel
theorem dX6_pressureAt_24 : decode cX6_pressureAt 24 = .ok (.iload_n 1, 1) := by decide +kernel
theorem dX6_pressureAt_25 : decode cX6_pressureAt 25 = .ok (.iaload, 1) := by decide +kernel
theorem dX6_pressureAt_26 : decode cX6_pressureAt 26 = .ok (.i2l, 1) := by decide +kernel
theorem dX6_pressureAt_27 : decode cX6_pressureAt 27 = .ok (.lmul, 1) := by decide +kernel
theorem dX6_pressureAt_28 : decode cX6_pressureAt 28 = .ok (.lsub, 1) := by decide +kernel
theorem dX6_pressureAt_29 : decode cX6_pressureAt 29 = .ok (.lreturn, 1) := by decide +kernel
theorem dX6_weakestJoint_0 : decode cX6_weakestJoint 0 = .ok (.bipush (-2), 2) := by decide +kernel
theorem dX6_weakestJoint_2 : decode cX6_weakestJoint 2 = .ok (.istore_n 1, 1) := by decide +kernel
theorem dX6_weakestJoint_3 : decode cX6_weakestJoint 3 = .ok (.iconst 1, 1) := by decide +kernel
theorem dX6_weakestJoint_4 : decode cX6_weakestJoint 4 = .ok (.istore_n 2, 1) := by decide +kernel
theorem dX6_weakestJoint_5 : decode cX6_weakestJoint 5 = .ok (.iload_n 2, 1) := by decide +kernel
theorem dX6_weakestJoint_6 : decode cX6_weakestJoint 6 = .ok (.aload_n 0, 1) := by decide +kernel
theorem dX6_weakestJoint_7 : decode cX6_weakestJoint 7 = .ok (.getfield 12, 3) := by decide +kernel
theorem dX6_weakestJoint_10 : decode cX6_weakestJoint 10 = .ok (.getfield 214, 3) := by decide +kernel
theorem dX6_weakestJoint_13 : decode cX6_weakestJoint 13 = .ok (.if_icmp .ge 46, 3) := by decide +kernel
theorem dX6_weakestJoint_16 : decode cX6_weakestJoint 16 = .ok (.aload_n 0, 1) := by decide +kernel
theorem dX6_weakestJoint_17 : decode cX6_weakestJoint 17 = .ok (.getfield 21, 3) := by decide +kernel
theorem dX6_weakestJoint_20 : decode cX6_weakestJoint 20 = .ok (.getfield 211, 3) := by decide +kernel
theorem dX6_weakestJoint_23 : decode cX6_weakestJoint 23 = .ok (.iload_n 2, 1) := by decide +kernel
theorem dX6_weakestJoint_24 : decode cX6_weakestJoint 24 = .ok (.invokestatic 197, 3) := by decide +kernel
theorem dX6_weakestJoint_27 : decode cX6_weakestJoint 27 = .ok (.iconst 1, 1) := by decide +kernel
theorem dX6_weakestJoint_28 : decode cX6_weakestJoint 28 = .ok (.if_icmp .ne 25, 3) := by decide +kernel
theorem dX6_weakestJoint_31 : decode cX6_weakestJoint 31 = .ok (.iload_n 1, 1) := by decide +kernel
theorem dX6_weakestJoint_32 : decode cX6_weakestJoint 32 = .ok (.bipush (-2), 2) := by decide +kernel
theorem dX6_weakestJoint_34 : decode cX6_weakestJoint 34 = .ok (.if_icmp .eq 17, 3) := by decide +kernel
theorem dX6_weakestJoint_37 : decode cX6_weakestJoint 37 = .ok (.aload_n 0, 1) := by decide +kernel
theorem dX6_weakestJoint_38 : decode cX6_weakestJoint 38 = .ok (.iload_n 2, 1) := by decide +kernel
theorem dX6_weakestJoint_39 : decode cX6_weakestJoint 39 = .ok (.invokevirtual 220, 3) := by decide +kernel
theorem dX6_weakestJoint_42 : decode cX6_weakestJoint 42 = .ok (.aload_n 0, 1) := by decide +kernel
theorem dX6_weakestJoint_43 : decode cX6_weakestJoint 43 = .ok (.iload_n 1, 1) := by decide +kernel
theorem dX6_weakestJoint_44 : decode cX6_weakestJoint 44 = .ok (.invokevirtual 220, 3) := by decide +kernel
theorem dX6_weakestJoint_47 : decode cX6_weakestJoint 47 = .ok (.lcmp, 1) := by decide +kernel
theorem dX6_weakestJoint_48 : decode cX6_weakestJoint 48 = .ok (.ifCond .ge 5, 3) := by decide +kernel
theorem dX6_weakestJoint_51 : decode cX6_weakestJoint 51 = .ok (.iload_n 2, 1) := by decide +kernel
theorem dX6_weakestJoint_52 : decode cX6_weakestJoint 52 = .ok (.istore_n 1, 1) := by decide +kernel
theorem dX6_weakestJoint_53 : decode cX6_weakestJoint 53 = .ok (.iinc 2 1, 3) := by decide +kernel
theorem dX6_weakestJoint_56 : decode cX6_weakestJoint 56 = .ok (.goto (-51), 3) := by decide +kernel
theorem dX6_weakestJoint_59 : decode cX6_weakestJoint 59 = .ok (.iload_n 1, 1) := by decide +kernel
theorem dX6_weakestJoint_60 : decode cX6_weakestJoint 60 = .ok (.ireturn, 1) := by decide +kernel
theorem dX6_leastPressure_0 : decode cX6_leastPressure 0 = .ok (.aload_n 0, 1) := by decide +kernel
theorem dX6_leastPressure_1 : decode cX6_leastPressure 1 = .ok (.invokevirtual 223, 3) := by decide +kernel
theorem dX6_leastPressure_4 : decode cX6_leastPressure 4 = .ok (.istore_n 1, 1) := by decide +kernel
theorem dX6_leastPressure_5 : decode cX6_leastPressure 5 = .ok (.iload_n 1, 1) := by decide +kernel
theorem dX6_leastPressure_6 : decode cX6_leastPressure 6 = .ok (.bipush (-2), 2) := by decide +kernel
theorem dX6_leastPressure_8 : decode cX6_leastPressure 8 = .ok (.if_icmp .ne 9, 3) := by decide +kernel
theorem dX6_leastPressure_11 : decode cX6_leastPressure 11 = .ok (.ldc2_w 226, 3) := by decide +kernel
theorem dX6_leastPressure_14 : decode cX6_leastPressure 14 = .ok (.goto 8, 3) := by decide +kernel
theorem dX6_leastPressure_17 : decode cX6_leastPressure 17 = .ok (.aload_n 0, 1) := by decide +kernel
theorem dX6_leastPressure_18 : decode cX6_leastPressure 18 = .ok (.iload_n 1, 1) := by decide +kernel
theorem dX6_leastPressure_19 : decode cX6_leastPressure 19 = .ok (.invokevirtual 220, 3) := by decide +kernel
theorem dX6_leastPressure_22 : decode cX6_leastPressure 22 = .ok (.lreturn, 1) := by decide +kernel
theorem dX6_leastPressureOfAll_0 : decode cX6_leastPressureOfAll 0 = .ok (.aload_n 0, 1) := by decide +kernel
theorem dX6_leastPressureOfAll_1 : decode cX6_leastPressureOfAll 1 = .ok (.invokevirtual 228, 3) := by decide +kernel
theorem dX6_leastPressureOfAll_4 : decode cX6_leastPressureOfAll 4 = .ok (.ifCond .ne 10, 3) := by decide +kernel
theorem dX6_leastPressureOfAll_7 : decode cX6_leastPressureOfAll 7 = .ok (.aload_n 0, 1) := by decide +kernel
theorem dX6_leastPressureOfAll_8 : decode cX6_leastPressureOfAll 8 = .ok (.invokevirtual 231, 3) := by decide +kernel
theorem dX6_leastPressureOfAll_11 : decode cX6_leastPressureOfAll 11 = .ok (.goto 6, 3) := by decide +kernel
theorem dX6_leastPressureOfAll_14 : decode cX6_leastPressureOfAll 14 = .ok (.ldc2_w 226, 3) := by decide +kernel
theorem dX6_leastPressureOfAll_17 : decode cX6_leastPressureOfAll 17 = .ok (.lreturn, 1) := by decide +kernel
theorem dX6_greatestRingSum_0 : decode cX6_greatestRingSum 0 = .ok (.lconst 0, 1) := by decide +kernel
theorem dX6_greatestRingSum_1 : decode cX6_greatestRingSum 1 = .ok (.lstore_n 1, 1) := by decide +kernel
theorem dX6_greatestRingSum_2 : decode cX6_greatestRingSum 2 = .ok (.iconst 0, 1) := by decide +kernel
theorem dX6_greatestRingSum_3 : decode cX6_greatestRingSum 3 = .ok (.istore_n 3, 1) := by decide +kernel
theorem dX6_greatestRingSum_4 : decode cX6_greatestRingSum 4 = .ok (.iload_n 3, 1) := by decide +kernel
theorem dX6_greatestRingSum_5 : decode cX6_greatestRingSum 5 = .ok (.aload_n 0, 1) := by decide +kernel
theorem dX6_greatestRingSum_6 : decode cX6_greatestRingSum 6 = .ok (.getfield 28, 3) := by decide +kernel
theorem dX6_greatestRingSum_9 : decode cX6_greatestRingSum 9 = .ok (.getfield 124, 3) := by decide +kernel
theorem dX6_greatestRingSum_12 : decode cX6_greatestRingSum 12 = .ok (.if_icmp .ge 22, 3) := by decide +kernel
theorem dX6_greatestRingSum_15 : decode cX6_greatestRingSum 15 = .ok (.lload_n 1, 1) := by decide +kernel
theorem dX6_greatestRingSum_16 : decode cX6_greatestRingSum 16 = .ok (.aload_n 0, 1) := by decide +kernel
theorem dX6_greatestRingSum_17 : decode cX6_greatestRingSum 17 = .ok (.iload_n 3, 1) := by decide +kernel
theorem dX6_greatestRingSum_18 : decode cX6_greatestRingSum 18 = .ok (.invokevirtual 125, 3) := by decide +kernel
theorem dX6_greatestRingSum_21 : decode cX6_greatestRingSum 21 = .ok (.invokestatic 185, 3) := by decide +kernel
theorem dX6_greatestRingSum_24 : decode cX6_greatestRingSum 24 = .ok (.invokestatic 145, 3) := by decide +kernel
theorem dX6_greatestRingSum_27 : decode cX6_greatestRingSum 27 = .ok (.lstore_n 1, 1) := by decide +kernel
theorem dX6_greatestRingSum_28 : decode cX6_greatestRingSum 28 = .ok (.iinc 3 1, 3) := by decide +kernel
theorem dX6_greatestRingSum_31 : decode cX6_greatestRingSum 31 = .ok (.goto (-27), 3) := by decide +kernel
theorem dX6_greatestRingSum_34 : decode cX6_greatestRingSum 34 = .ok (.lload_n 1, 1) := by decide +kernel
theorem dX6_greatestRingSum_35 : decode cX6_greatestRingSum 35 = .ok (.lreturn, 1) := by decide +kernel
theorem dX6_pumpWork_0 : decode cX6_pumpWork 0 = .ok (.lconst 0, 1) := by decide +kernel
theorem dX6_pumpWork_1 : decode cX6_pumpWork 1 = .ok (.lstore_n 1, 1) := by decide +kernel
theorem dX6_pumpWork_2 : decode cX6_pumpWork 2 = .ok (.iconst 0, 1) := by decide +kernel
theorem dX6_pumpWork_3 : decode cX6_pumpWork 3 = .ok (.istore_n 3, 1) := by decide +kernel
theorem dX6_pumpWork_4 : decode cX6_pumpWork 4 = .ok (.iload_n 3, 1) := by decide +kernel
theorem dX6_pumpWork_5 : decode cX6_pumpWork 5 = .ok (.aload_n 0, 1) := by decide +kernel
theorem dX6_pumpWork_6 : decode cX6_pumpWork 6 = .ok (.getfield 12, 3) := by decide +kernel
theorem dX6_pumpWork_9 : decode cX6_pumpWork 9 = .ok (.getfield 83, 3) := by decide +kernel
theorem dX6_pumpWork_12 : decode cX6_pumpWork 12 = .ok (.if_icmp .ge 46, 3) := by decide +kernel
theorem dX6_pumpWork_15 : decode cX6_pumpWork 15 = .ok (.aload_n 0, 1) := by decide +kernel
theorem dX6_pumpWork_16 : decode cX6_pumpWork 16 = .ok (.getfield 12, 3) := by decide +kernel
theorem dX6_pumpWork_19 : decode cX6_pumpWork 19 = .ok (.getfield 194, 3) := by decide +kernel
theorem dX6_pumpWork_22 : decode cX6_pumpWork 22 = .ok (.iload_n 3, 1) := by decide +kernel
theorem dX6_pumpWork_23 : decode cX6_pumpWork 23 = .ok (.iaload, 1) := by decide +kernel
theorem dX6_pumpWork_24 : decode cX6_pumpWork 24 = .ok (.iconst 2, 1) := by decide +kernel
theorem dX6_pumpWork_25 : decode cX6_pumpWork 25 = .ok (.if_icmp .ne 27, 3) := by decide +kernel
theorem dX6_pumpWork_28 : decode cX6_pumpWork 28 = .ok (.lload_n 1, 1) := by decide +kernel
theorem dX6_pumpWork_29 : decode cX6_pumpWork 29 = .ok (.aload_n 0, 1) := by decide +kernel
theorem dX6_pumpWork_30 : decode cX6_pumpWork 30 = .ok (.getfield 32, 3) := by decide +kernel
theorem dX6_pumpWork_33 : decode cX6_pumpWork 33 = .ok (.iload_n 3, 1) := by decide +kernel
theorem dX6_pumpWork_34 : decode cX6_pumpWork 34 = .ok (.laload, 1) := by decide +kernel
theorem dX6_pumpWork_35 : decode cX6_pumpWork 35 = .ok (.aload_n 0, 1) := by decide +kernel
theorem dX6_pumpWork_36 : decode cX6_pumpWork 36 = .ok (.getfield 12, 3) := by decide +kernel
theorem dX6_pumpWork_39 : decode cX6_pumpWork 39 = .ok (.iload_n 3, 1) := by decide +kernel
theorem dX6_pumpWork_40 : decode cX6_pumpWork 40 = .ok (.aload_n 0, 1) := by decide +kernel
theorem dX6_pumpWork_41 : decode cX6_pumpWork 41 = .ok (.getfield 32, 3) := by decide +kernel
theorem dX6_pumpWork_44 : decode cX6_pumpWork 44 = .ok (.iload_n 3, 1) := by decide +kernel
theorem dX6_pumpWork_45 : decode cX6_pumpWork 45 = .ok (.laload, 1) := by decide +kernel
theorem dX6_pumpWork_46 : decode cX6_pumpWork 46 = .ok (.invokevirtual 176, 3) := by decide +kernel
theorem dX6_pumpWork_49 : decode cX6_pumpWork 49 = .ok (.lmul, 1) := by decide +kernel
theorem dX6_pumpWork_50 : decode cX6_pumpWork 50 = .ok (.lsub, 1) := by decide +kernel
theorem dX6_pumpWork_51 : decode cX6_pumpWork 51 = .ok (.lstore_n 1, 1) := by decide +kernel
theorem dX6_pumpWork_52 : decode cX6_pumpWork 52 = .ok (.iinc 3 1, 3) := by decide +kernel
theorem dX6_pumpWork_55 : decode cX6_pumpWork 55 = .ok (.goto (-51), 3) := by decide +kernel
theorem dX6_pumpWork_58 : decode cX6_pumpWork 58 = .ok (.lload_n 1, 1) := by decide +kernel
theorem dX6_pumpWork_59 : decode cX6_pumpWork 59 = .ok (.lreturn, 1) := by decide +kernel
theorem dX6_leftOverAt_0 : decode cX6_leftOverAt 0 = .ok (.aload_n 0, 1) := by decide +kernel
theorem dX6_leftOverAt_1 : decode cX6_leftOverAt 1 = .ok (.getfield 21, 3) := by decide +kernel
theorem dX6_leftOverAt_4 : decode cX6_leftOverAt 4 = .ok (.getfield 211, 3) := by decide +kernel
theorem dX6_leftOverAt_7 : decode cX6_leftOverAt 7 = .ok (.iload_n 1, 1) := by decide +kernel
theorem dX6_leftOverAt_8 : decode cX6_leftOverAt 8 = .ok (.invokestatic 197, 3) := by decide +kernel
theorem dX6_leftOverAt_11 : decode cX6_leftOverAt 11 = .ok (.iconst 1, 1) := by decide +kernel
theorem dX6_leftOverAt_12 : decode cX6_leftOverAt 12 = .ok (.if_icmp .ne 17, 3) := by decide +kernel
theorem dX6_leftOverAt_15 : decode cX6_leftOverAt 15 = .ok (.aload_n 0, 1) := by decide +kernel
theorem dX6_leftOverAt_16 : decode cX6_leftOverAt 16 = .ok (.getfield 12, 3) := by decide +kernel
theorem dX6_leftOverAt_19 : decode cX6_leftOverAt 19 = .ok (.getfield 109, 3) := by decide +kernel
theorem dX6_leftOverAt_22 : decode cX6_leftOverAt 22 = .ok (.iload_n 1, 1) := by decide +kernel
theorem dX6_leftOverAt_23 : decode cX6_leftOverAt 23 = .ok (.iaload, 1) := by decide +kernel
theorem dX6_leftOverAt_24 : decode cX6_leftOverAt 24 = .ok (.ineg, 1) := by decide +kernel
theorem dX6_leftOverAt_25 : decode cX6_leftOverAt 25 = .ok (.i2l, 1) := by decide +kernel
theorem dX6_leftOverAt_26 : decode cX6_leftOverAt 26 = .ok (.goto 4, 3) := by decide +kernel
theorem dX6_leftOverAt_29 : decode cX6_leftOverAt 29 = .ok (.lconst 0, 1) := by decide +kernel
theorem dX6_leftOverAt_30 : decode cX6_leftOverAt 30 = .ok (.lstore_n 2, 1) := by decide +kernel
theorem dX6_leftOverAt_31 : decode cX6_leftOverAt 31 = .ok (.iconst 0, 1) := by decide +kernel
theorem dX6_leftOverAt_32 : decode cX6_leftOverAt 32 = .ok (.istore 4, 2) := by decide +kernel
theorem dX6_leftOverAt_34 : decode cX6_leftOverAt 34 = .ok (.iload 4, 2) := by decide +kernel
theorem dX6_leftOverAt_36 : decode cX6_leftOverAt 36 = .ok (.aload_n 0, 1) := by decide +kernel
theorem dX6_leftOverAt_37 : decode cX6_leftOverAt 37 = .ok (.getfield 12, 3) := by decide +kernel
theorem dX6_leftOverAt_40 : decode cX6_leftOverAt 40 = .ok (.getfield 83, 3) := by decide +kernel
theorem dX6_leftOverAt_43 : decode cX6_leftOverAt 43 = .ok (.if_icmp .ge 60, 3) := by decide +kernel
theorem dX6_leftOverAt_46 : decode cX6_leftOverAt 46 = .ok (.aload_n 0, 1) := by decide +kernel
theorem dX6_leftOverAt_47 : decode cX6_leftOverAt 47 = .ok (.getfield 12, 3) := by decide +kernel
theorem dX6_leftOverAt_50 : decode cX6_leftOverAt 50 = .ok (.getfield 208, 3) := by decide +kernel
theorem dX6_leftOverAt_53 : decode cX6_leftOverAt 53 = .ok (.iload 4, 2) := by decide +kernel
theorem dX6_leftOverAt_55 : decode cX6_leftOverAt 55 = .ok (.iaload, 1) := by decide +kernel
theorem dX6_leftOverAt_56 : decode cX6_leftOverAt 56 = .ok (.iload_n 1, 1) := by decide +kernel
theorem dX6_leftOverAt_57 : decode cX6_leftOverAt 57 = .ok (.if_icmp .ne 16, 3) := by decide +kernel
theorem dX6_leftOverAt_60 : decode cX6_leftOverAt 60 = .ok (.lload_n 2, 1) := by decide +kernel
theorem dX6_leftOverAt_61 : decode cX6_leftOverAt 61 = .ok (.aload_n 0, 1) := by decide +kernel
theorem dX6_leftOverAt_62 : decode cX6_leftOverAt 62 = .ok (.getfield 32, 3) := by decide +kernel
theorem dX6_leftOverAt_65 : decode cX6_leftOverAt 65 = .ok (.iload 4, 2) := by decide +kernel
theorem dX6_leftOverAt_67 : decode cX6_leftOverAt 67 = .ok (.laload, 1) := by decide +kernel
theorem dX6_leftOverAt_68 : decode cX6_leftOverAt 68 = .ok (.ladd, 1) := by decide +kernel
theorem dX6_leftOverAt_69 : decode cX6_leftOverAt 69 = .ok (.lstore_n 2, 1) := by decide +kernel
theorem dX6_leftOverAt_70 : decode cX6_leftOverAt 70 = .ok (.goto 27, 3) := by decide +kernel
theorem dX6_leftOverAt_73 : decode cX6_leftOverAt 73 = .ok (.aload_n 0, 1) := by decide +kernel
theorem dX6_leftOverAt_74 : decode cX6_leftOverAt 74 = .ok (.getfield 12, 3) := by decide +kernel
theorem dX6_leftOverAt_77 : decode cX6_leftOverAt 77 = .ok (.getfield 205, 3) := by decide +kernel
theorem dX6_leftOverAt_80 : decode cX6_leftOverAt 80 = .ok (.iload 4, 2) := by decide +kernel
theorem dX6_leftOverAt_82 : decode cX6_leftOverAt 82 = .ok (.iaload, 1) := by decide +kernel
theorem dX6_leftOverAt_83 : decode cX6_leftOverAt 83 = .ok (.iload_n 1, 1) := by decide +kernel
theorem dX6_leftOverAt_84 : decode cX6_leftOverAt 84 = .ok (.if_icmp .ne 13, 3) := by decide +kernel
theorem dX6_leftOverAt_87 : decode cX6_leftOverAt 87 = .ok (.lload_n 2, 1) := by decide +kernel
theorem dX6_leftOverAt_88 : decode cX6_leftOverAt 88 = .ok (.aload_n 0, 1) := by decide +kernel
theorem dX6_leftOverAt_89 : decode cX6_leftOverAt 89 = .ok (.getfield 32, 3) := by decide +kernel
theorem dX6_leftOverAt_92 : decode cX6_leftOverAt 92 = .ok (.iload 4, 2) := by decide +kernel
theorem dX6_leftOverAt_94 : decode cX6_leftOverAt 94 = .ok (.laload, 1) := by decide +kernel
theorem dX6_leftOverAt_95 : decode cX6_leftOverAt 95 = .ok (.lsub, 1) := by decide +kernel
theorem dX6_leftOverAt_96 : decode cX6_leftOverAt 96 = .ok (.lstore_n 2, 1) := by decide +kernel
theorem dX6_leftOverAt_97 : decode cX6_leftOverAt 97 = .ok (.iinc 4 1, 3) := by decide +kernel
theorem dX6_leftOverAt_100 : decode cX6_leftOverAt 100 = .ok (.goto (-66), 3) := by decide +kernel
theorem dX6_leftOverAt_103 : decode cX6_leftOverAt 103 = .ok (.lload_n 2, 1) := by decide +kernel
theorem dX6_leftOverAt_104 : decode cX6_leftOverAt 104 = .ok (.lreturn, 1) := by decide +kernel
