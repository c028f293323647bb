theorem dX7_pairs_30 : decode cX7_pairs 30 = .ok (.aload_n 0, 1) := by decide +kernel
theorem dX7_pairs_31 : decode cX7_pairs 31 = .ok (.getfield 29, 3) := by decide +kernel
theorem dX7_pairs_34 : decode cX7_pairs 34 = .ok (.invokevirtual 129, 3) := by decide +kernel
theorem dX7_pairs_37 : decode cX7_pairs 37 = .ok (.istore_n 2, 1) := by decide +kernel
theorem dX7_pairs_38 : decode cX7_pairs 38 = .ok (.iconst 0, 1) := by decide +kernel
theorem dX7_pairs_39 : decode cX7_pairs 39 = .ok (.istore_n 3, 1) := by decide +kernel
theorem dX7_pairs_40 : decode cX7_pairs 40 = .ok (.iconst 0, 1) := by decide +kernel
theorem dX7_pairs_41 : decode cX7_pairs 41 = .ok (.istore 4, 2) := by decide +kernel
theorem dX7_pairs_43 : decode cX7_pairs 43 = .ok (.iload 4, 2) := by decide +kernel
theorem dX7_pairs_45 : decode cX7_pairs 45 = .ok (.aload_n 0, 1) := by decide +kernel
theorem dX7_pairs_46 : decode cX7_pairs 46 = .ok (.getfield 37, 3) := by decide +kernel
theorem dX7_pairs_49 : decode cX7_pairs 49 = .ok (.getfield 105, 3) := by decide +kernel
theorem dX7_pairs_52 : decode cX7_pairs 52 = .ok (.if_icmp .ge 67, 3) := by decide +kernel
theorem dX7_pairs_55 : decode cX7_pairs 55 = .ok (.iload 4, 2) := by decide +kernel
theorem dX7_pairs_57 : decode cX7_pairs 57 = .ok (.iconst 1, 1) := by decide +kernel
theorem dX7_pairs_58 : decode cX7_pairs 58 = .ok (.iadd, 1) := by decide +kernel
theorem dX7_pairs_59 : decode cX7_pairs 59 = .ok (.istore 5, 2) := by decide +kernel
theorem dX7_pairs_61 : decode cX7_pairs 61 = .ok (.iload 5, 2) := by decide +kernel
theorem dX7_pairs_63 : decode cX7_pairs 63 = .ok (.aload_n 0, 1) := by decide +kernel
theorem dX7_pairs_64 : decode cX7_pairs 64 = .ok (.getfield 37, 3) := by decide +kernel
theorem dX7_pairs_67 : decode cX7_pairs 67 = .ok (.getfield 105, 3) := by decide +kernel
theorem dX7_pairs_70 : decode cX7_pairs 70 = .ok (.if_icmp .ge 43, 3) := by decide +kernel
theorem dX7_pairs_73 : decode cX7_pairs 73 = .ok (.iconst 1, 1) := by decide +kernel
theorem dX7_pairs_74 : decode cX7_pairs 74 = .ok (.iload 4, 2) := by decide +kernel
theorem dX7_pairs_76 : decode cX7_pairs 76 = .ok (.ishl, 1) := by decide +kernel
theorem dX7_pairs_77 : decode cX7_pairs 77 = .ok (.iconst 1, 1) := by decide +kernel
theorem dX7_pairs_78 : decode cX7_pairs 78 = .ok (.iload 5, 2) := by decide +kernel
theorem dX7_pairs_80 : decode cX7_pairs 80 = .ok (.ishl, 1) := by decide +kernel
theorem dX7_pairs_81 : decode cX7_pairs 81 = .ok (.ior, 1) := by decide +kernel
theorem dX7_pairs_82 : decode cX7_pairs 82 = .ok (.istore 6, 2) := by decide +kernel
theorem dX7_pairs_84 : decode cX7_pairs 84 = .ok (.iload_n 1, 1) := by decide +kernel
theorem dX7_pairs_85 : decode cX7_pairs 85 = .ok (.iload 6, 2) := by decide +kernel
theorem dX7_pairs_87 : decode cX7_pairs 87 = .ok (.iand, 1) := by decide +kernel
theorem dX7_pairs_88 : decode cX7_pairs 88 = .ok (.ifCond .ne 19, 3) := by decide +kernel
theorem dX7_pairs_91 : decode cX7_pairs 91 = .ok (.aload_n 0, 1) := by decide +kernel
theorem dX7_pairs_92 : decode cX7_pairs 92 = .ok (.iload 6, 2) := by decide +kernel
theorem dX7_pairs_94 : decode cX7_pairs 94 = .ok (.invokevirtual 262, 3) := by decide +kernel
theorem dX7_pairs_97 : decode cX7_pairs 97 = .ok (.iload_n 2, 1) := by decide +kernel
theorem dX7_pairs_98 : decode cX7_pairs 98 = .ok (.iconst (-1), 1) := by decide +kernel
theorem dX7_pairs_99 : decode cX7_pairs 99 = .ok (.ixor, 1) := by decide +kernel
theorem dX7_pairs_100 : decode cX7_pairs 100 = .ok (.iand, 1) := by decide +kernel
theorem dX7_pairs_101 : decode cX7_pairs 101 = .ok (.ifCond .eq 6, 3) := by decide +kernel
theorem dX7_pairs_104 : decode cX7_pairs 104 = .ok (.iinc 3 1, 3) := by decide +kernel
theorem dX7_pairs_107 : decode cX7_pairs 107 = .ok (.iinc 5 1, 3) := by decide +kernel
theorem dX7_pairs_110 : decode cX7_pairs 110 = .ok (.goto (-49), 3) := by decide +kernel
theorem dX7_pairs_113 : decode cX7_pairs 113 = .ok (.iinc 4 1, 3) := by decide +kernel
theorem dX7_pairs_116 : decode cX7_pairs 116 = .ok (.goto (-73), 3) := by decide +kernel
theorem dX7_pairs_119 : decode cX7_pairs 119 = .ok (.iload_n 3, 1) := by decide +kernel
theorem dX7_pairs_120 : decode cX7_pairs 120 = .ok (.ireturn, 1) := by decide +kernel
theorem dX7_fire_0 : decode cX7_fire 0 = .ok (.aload_n 0, 1) := by decide +kernel
theorem dX7_fire_1 : decode cX7_fire 1 = .ok (.iload_n 1, 1) := by decide +kernel
theorem dX7_fire_2 : decode cX7_fire 2 = .ok (.invokevirtual 232, 3) := by decide +kernel
theorem dX7_fire_5 : decode cX7_fire 5 = .ok (.ifCond .ne 9, 3) := by decide +kernel
theorem dX7_fire_8 : decode cX7_fire 8 = .ok (.aload_n 0, 1) := by decide +kernel
theorem dX7_fire_9 : decode cX7_fire 9 = .ok (.iconst 1, 1) := by decide +kernel
theorem dX7_fire_10 : decode cX7_fire 10 = .ok (.invokevirtual 65, 3) := by decide +kernel
theorem dX7_fire_13 : decode cX7_fire 13 = .ok (.ireturn, 1) := by decide +kernel
theorem dX7_fire_14 : decode cX7_fire 14 = .ok (.iload_n 2, 1) := by decide +kernel
theorem dX7_fire_15 : decode cX7_fire 15 = .ok (.invokestatic 256, 3) := by decide +kernel
theorem dX7_fire_18 : decode cX7_fire 18 = .ok (.ifCond .ne 9, 3) := by decide +kernel
theorem dX7_fire_21 : decode cX7_fire 21 = .ok (.aload_n 0, 1) := by decide +kernel
theorem dX7_fire_22 : decode cX7_fire 22 = .ok (.iconst 2, 1) := by decide +kernel
theorem dX7_fire_23 : decode cX7_fire 23 = .ok (.invokevirtual 65, 3) := by decide +kernel
theorem dX7_fire_26 : decode cX7_fire 26 = .ok (.ireturn, 1) := by decide +kernel
theorem dX7_fire_27 : decode cX7_fire 27 = .ok (.aload_n 0, 1) := by decide +kernel
theorem dX7_fire_28 : decode cX7_fire 28 = .ok (.invokevirtual 79, 3) := by decide +kernel
theorem dX7_fire_31 : decode cX7_fire 31 = .ok (.bipush 60, 2) := by decide +kernel
theorem dX7_fire_33 : decode cX7_fire 33 = .ok (.istore_n 3, 1) := by decide +kernel
theorem dX7_fire_34 : decode cX7_fire 34 = .ok (.iload_n 3, 1) := by decide +kernel
theorem dX7_fire_35 : decode cX7_fire 35 = .ok (.ifCond .lt 30, 3) := by decide +kernel
theorem dX7_fire_38 : decode cX7_fire 38 = .ok (.aload_n 0, 1) := by decide +kernel
theorem dX7_fire_39 : decode cX7_fire 39 = .ok (.iload_n 1, 1) := by decide +kernel
theorem dX7_fire_40 : decode cX7_fire 40 = .ok (.iload_n 3, 1) := by decide +kernel
theorem dX7_fire_41 : decode cX7_fire 41 = .ok (.invokevirtual 265, 3) := by decide +kernel
theorem dX7_fire_44 : decode cX7_fire 44 = .ok (.aload_n 0, 1) := by decide +kernel
theorem dX7_fire_45 : decode cX7_fire 45 = .ok (.getfield 38, 3) := by decide +kernel
theorem dX7_fire_48 : decode cX7_fire 48 = .ok (.invokevirtual 251, 3) := by decide +kernel
theorem dX7_fire_51 : decode cX7_fire 51 = .ok (.iload_n 2, 1) := by decide +kernel
theorem dX7_fire_52 : decode cX7_fire 52 = .ok (.i2l, 1) := by decide +kernel
theorem dX7_fire_53 : decode cX7_fire 53 = .ok (.lcmp, 1) := by decide +kernel
theorem dX7_fire_54 : decode cX7_fire 54 = .ok (.ifCond .lt 5, 3) := by decide +kernel
theorem dX7_fire_57 : decode cX7_fire 57 = .ok (.iload_n 3, 1) := by decide +kernel
theorem dX7_fire_58 : decode cX7_fire 58 = .ok (.ireturn, 1) := by decide +kernel
theorem dX7_fire_59 : decode cX7_fire 59 = .ok (.iinc 3 (-1), 3) := by decide +kernel
theorem dX7_fire_62 : decode cX7_fire 62 = .ok (.goto (-28), 3) := by decide +kernel
theorem dX7_fire_65 : decode cX7_fire 65 = .ok (.bipush (-2), 2) := by decide +kernel
theorem dX7_fire_67 : decode cX7_fire 67 = .ok (.ireturn, 1) := by decide +kernel
theorem dX7_cut_0 : decode cX7_cut 0 = .ok (.aload_n 0, 1) := by decide +kernel
theorem dX7_cut_1 : decode cX7_cut 1 = .ok (.getfield 37, 3) := by decide +kernel
theorem dX7_cut_4 : decode cX7_cut 4 = .ok (.iload_n 1, 1) := by decide +kernel
theorem dX7_cut_5 : decode cX7_cut 5 = .ok (.invokevirtual 137, 3) := by decide +kernel
theorem dX7_cut_8 : decode cX7_cut 8 = .ok (.ifCond .ne 9, 3) := by decide +kernel
theorem dX7_cut_11 : decode cX7_cut 11 = .ok (.aload_n 0, 1) := by decide +kernel
theorem dX7_cut_12 : decode cX7_cut 12 = .ok (.iconst 1, 1) := by decide +kernel
theorem dX7_cut_13 : decode cX7_cut 13 = .ok (.invokevirtual 65, 3) := by decide +kernel
theorem dX7_cut_16 : decode cX7_cut 16 = .ok (.ireturn, 1) := by decide +kernel
theorem dX7_cut_17 : decode cX7_cut 17 = .ok (.aload_n 0, 1) := by decide +kernel
theorem dX7_cut_18 : decode cX7_cut 18 = .ok (.invokevirtual 79, 3) := by decide +kernel
theorem dX7_cut_21 : decode cX7_cut 21 = .ok (.aload_n 0, 1) := by decide +kernel
theorem dX7_cut_22 : decode cX7_cut 22 = .ok (.iconst 1, 1) := by decide +kernel
theorem dX7_cut_23 : decode cX7_cut 23 = .ok (.iload_n 1, 1) := by decide +kernel
theorem dX7_cut_24 : decode cX7_cut 24 = .ok (.ishl, 1) := by decide +kernel
theorem dX7_cut_25 : decode cX7_cut 25 = .ok (.invokevirtual 262, 3) := by decide +kernel
theorem dX7_cut_28 : decode cX7_cut 28 = .ok (.ireturn, 1) := by decide +kernel
theorem dX7_vital_0 : decode cX7_vital 0 = .ok (.aload_n 0, 1) := by decide +kernel
theorem dX7_vital_1 : decode cX7_vital 1 = .ok (.invokevirtual 101, 3) := by decide +kernel
theorem dX7_vital_4 : decode cX7_vital 4 = .ok (.ifCond .ne 9, 3) := by decide +kernel
theorem dX7_vital_7 : decode cX7_vital 7 = .ok (.aload_n 0, 1) := by decide +kernel
theorem dX7_vital_8 : decode cX7_vital 8 = .ok (.iconst 1, 1) := by decide +kernel
theorem dX7_vital_9 : decode cX7_vital 9 = .ok (.invokevirtual 65, 3) := by decide +kernel
theorem dX7_vital_12 : decode cX7_vital 12 = .ok (.ireturn, 1) := by decide +kernel
theorem dX7_vital_13 : decode cX7_vital 13 = .ok (.aload_n 0, 1) := by decide +kernel
theorem dX7_vital_14 : decode cX7_vital 14 = .ok (.invokevirtual 79, 3) := by decide +kernel
theorem dX7_vital_17 : decode cX7_vital 17 = .ok (.aload_n 0, 1) := by decide +kernel
theorem dX7_vital_18 : decode cX7_vital 18 = .ok (.invokevirtual 259, 3) := by decide +kernel
theorem dX7_vital_21 : decode cX7_vital 21 = .ok (.ireturn, 1) := by decide +kernel
theorem dX7_widen_0 : decode cX7_widen 0 = .ok (.aload_n 0, 1) := by decide +kernel
theorem dX7_widen_1 : decode cX7_widen 1 = .ok (.invokevirtual 101, 3) := by decide +kernel
theorem dX7_widen_4 : decode cX7_widen 4 = .ok (.ifCond .ne 9, 3) := by decide +kernel
theorem dX7_widen_7 : decode cX7_widen 7 = .ok (.aload_n 0, 1) := by decide +kernel
theorem dX7_widen_8 : decode cX7_widen 8 = .ok (.iconst 1, 1) := by decide +kernel
theorem dX7_widen_9 : decode cX7_widen 9 = .ok (.invokevirtual 65, 3) := by decide +kernel
theorem dX7_widen_12 : decode cX7_widen 12 = .ok (.ireturn, 1) := by decide +kernel
theorem dX7_widen_13 : decode cX7_widen 13 = .ok (.aload_n 0, 1) := by decide +kernel
theorem dX7_widen_14 : decode cX7_widen 14 = .ok (.invokevirtual 79, 3) := by decide +kernel
theorem dX7_widen_17 : decode cX7_widen 17 = .ok (.aload_n 0, 1) := by decide +kernel
theorem dX7_widen_18 : decode cX7_widen 18 = .ok (.invokevirtual 269, 3) := by decide +kernel
theorem dX7_widen_21 : decode cX7_widen 21 = .ok (.ireturn, 1) := by decide +kernel
theorem dX7_widened_0 : decode cX7_widened 0 = .ok (.aload_n 0, 1) := by decide +kernel
theorem dX7_widened_1 : decode cX7_widened 1 = .ok (.invokevirtual 101, 3) := by decide +kernel
theorem dX7_widened_4 : decode cX7_widened 4 = .ok (.ifCond .ne 9, 3) := by decide +kernel
theorem dX7_widened_7 : decode cX7_widened 7 = .ok (.aload_n 0, 1) := by decide +kernel
theorem dX7_widened_8 : decode cX7_widened 8 = .ok (.iconst 1, 1) := by decide +kernel
theorem dX7_widened_9 : decode cX7_widened 9 = .ok (.invokevirtual 171, 3) := by decide +kernel
theorem dX7_widened_12 : decode cX7_widened 12 = .ok (.lreturn, 1) := by decide +kernel
theorem dX7_widened_13 : decode cX7_widened 13 = .ok (.aload_n 0, 1) := by decide +kernel
theorem dX7_widened_14 : decode cX7_widened 14 = .ok (.invokevirtual 269, 3) := by decide +kernel
theorem dX7_widened_17 : decode cX7_widened 17 = .ok (.istore_n 1, 1) := by decide +kernel
theorem dX7_widened_18 : decode cX7_widened 18 = .ok (.iload_n 1, 1) := by decide +kernel
theorem dX7_widened_19 : decode cX7_widened 19 = .ok (.bipush (-2), 2) := by decide +kernel
theorem dX7_widened_21 : decode cX7_widened 21 = .ok (.if_icmp .ne 9, 3) := by decide +kernel
theorem dX7_widened_24 : decode cX7_widened 24 = .ok (.aload_n 0, 1) := by decide +kernel
theorem dX7_widened_25 : decode cX7_widened 25 = .ok (.iconst 5, 1) := by decide +kernel
theorem dX7_widened_26 : decode cX7_widened 26 = .ok (.invokevirtual 171, 3) := by decide +kernel
theorem dX7_widened_29 : decode cX7_widened 29 = .ok (.lreturn, 1) := by decide +kernel
theorem dX7_widened_30 : decode cX7_widened 30 = .ok (.aload_n 0, 1) := by decide +kernel
theorem dX7_widened_31 : decode cX7_widened 31 = .ok (.invokevirtual 79, 3) := by decide +kernel
theorem dX7_widened_34 : decode cX7_widened 34 = .ok (.aload_n 0, 1) := by decide +kernel
theorem dX7_widened_35 : decode cX7_widened 35 = .ok (.iload_n 1, 1) := by decide +kernel
theorem dX7_widened_36 : decode cX7_widened 36 = .ok (.invokevirtual 272, 3) := by decide +kernel
theorem dX7_widened_39 : decode cX7_widened 39 = .ok (.lreturn, 1) := by decide +kernel
theorem dX7_measure_0 : decode cX7_measure 0 = .ok (.aload_n 0, 1) := by decide +kernel
theorem dX7_measure_1 : decode cX7_measure 1 = .ok (.iload_n 1, 1) := by decide +kernel
theorem dX7_measure_2 : decode cX7_measure 2 = .ok (.invokevirtual 232, 3) := by decide +kernel
theorem dX7_measure_5 : decode cX7_measure 5 = .ok (.ifCond .ne 9, 3) := by decide +kernel
theorem dX7_measure_8 : decode cX7_measure 8 = .ok (.aload_n 0, 1) := by decide +kernel
theorem dX7_measure_9 : decode cX7_measure 9 = .ok (.iconst 1, 1) := by decide +kernel
theorem dX7_measure_10 : decode cX7_measure 10 = .ok (.invokevirtual 65, 3) := by decide +kernel
theorem dX7_measure_13 : decode cX7_measure 13 = .ok (.ireturn, 1) := by decide +kernel
theorem dX7_measure_14 : decode cX7_measure 14 = .ok (.iload_n 2, 1) := by decide +kernel
theorem dX7_measure_15 : decode cX7_measure 15 = .ok (.ldc_w 275, 3) := by decide +kernel
theorem dX7_measure_18 : decode cX7_measure 18 = .ok (.if_icmp .lt 10, 3) := by decide +kernel
theorem dX7_measure_21 : decode cX7_measure 21 = .ok (.iload_n 2, 1) := by decide +kernel
theorem dX7_measure_22 : decode cX7_measure 22 = .ok (.ldc_w 276, 3) := by decide +kernel
theorem dX7_measure_25 : decode cX7_measure 25 = .ok (.if_icmp .le 9, 3) := by decide +kernel
theorem dX7_measure_28 : decode cX7_measure 28 = .ok (.aload_n 0, 1) := by decide +kernel
theorem dX7_measure_29 : decode cX7_measure 29 = .ok (.iconst 2, 1) := by decide +kernel
theorem dX7_measure_30 : decode cX7_measure 30 = .ok (.invokevirtual 65, 3) := by decide +kernel
theorem dX7_measure_33 : decode cX7_measure 33 = .ok (.ireturn, 1) := by decide +kernel
theorem dX7_measure_34 : decode cX7_measure 34 = .ok (.aload_n 0, 1) := by decide +kernel
theorem dX7_measure_35 : decode cX7_measure 35 = .ok (.invokevirtual 79, 3) := by decide +kernel
theorem dX7_measure_38 : decode cX7_measure 38 = .ok (.aload_n 0, 1) := by decide +kernel
theorem dX7_measure_39 : decode cX7_measure 39 = .ok (.getfield 54, 3) := by decide +kernel
theorem dX7_measure_42 : decode cX7_measure 42 = .ok (.iload_n 1, 1) := by decide +kernel
theorem dX7_measure_43 : decode cX7_measure 43 = .ok (.iload_n 2, 1) := by decide +kernel
theorem dX7_measure_44 : decode cX7_measure 44 = .ok (.invokevirtual 277, 3) := by decide +kernel
theorem dX7_measure_47 : decode cX7_measure 47 = .ok (.aload_n 0, 1) := by decide +kernel
theorem dX7_measure_48 : decode cX7_measure 48 = .ok (.getfield 54, 3) := by decide +kernel
theorem dX7_measure_51 : decode cX7_measure 51 = .ok (.invokevirtual 135, 3) := by decide +kernel
theorem dX7_measure_54 : decode cX7_measure 54 = .ok (.ireturn, 1) := by decide +kernel
theorem dX7_forget_0 : decode cX7_forget 0 = .ok (.aload_n 0, 1) := by decide +kernel
theorem dX7_forget_1 : decode cX7_forget 1 = .ok (.invokevirtual 101, 3) := by decide +kernel
theorem dX7_forget_4 : decode cX7_forget 4 = .ok (.ifCond .ne 9, 3) := by decide +kernel
theorem dX7_forget_7 : decode cX7_forget 7 = .ok (.aload_n 0, 1) := by decide +kernel
theorem dX7_forget_8 : decode cX7_forget 8 = .ok (.iconst 1, 1) := by decide +kernel
theorem dX7_forget_9 : decode cX7_forget 9 = .ok (.invokevirtual 65, 3) := by decide +kernel
theorem dX7_forget_12 : decode cX7_forget 12 = .ok (.ireturn, 1) := by decide +kernel
theorem dX7_forget_13 : decode cX7_forget 13 = .ok (.aload_n 0, 1) := by decide +kernel
theorem dX7_forget_14 : decode cX7_forget 14 = .ok (.invokevirtual 79, 3) := by decide +kernel
theorem dX7_forget_17 : decode cX7_forget 17 = .ok (.aload_n 0, 1) := by decide +kernel
theorem dX7_forget_18 : decode cX7_forget 18 = .ok (.getfield 54, 3) := by decide +kernel
theorem dX7_forget_21 : decode cX7_forget 21 = .ok (.invokevirtual 135, 3) := by decide +kernel
theorem dX7_forget_24 : decode cX7_forget 24 = .ok (.istore_n 1, 1) := by decide +kernel
theorem dX7_forget_25 : decode cX7_forget 25 = .ok (.aload_n 0, 1) := by decide +kernel
theorem dX7_forget_26 : decode cX7_forget 26 = .ok (.getfield 54, 3) := by decide +kernel
theorem dX7_forget_29 : decode cX7_forget 29 = .ok (.invokevirtual 92, 3) := by decide +kernel
theorem dX7_forget_32 : decode cX7_forget 32 = .ok (.iload_n 1, 1) := by decide +kernel
theorem dX7_forget_33 : decode cX7_forget 33 = .ok (.ireturn, 1) := by decide +kernel
theorem dX7_off_0 : decode cX7_off 0 = .ok (.aload_n 0, 1) := by decide +kernel
theorem dX7_off_1 : decode cX7_off 1 = .ok (.iload_n 1, 1) := by decide +kernel
theorem dX7_off_2 : decode cX7_off 2 = .ok (.invokevirtual 232, 3) := by decide +kernel
theorem dX7_off_5 : decode cX7_off 5 = .ok (.ifCond .ne 9, 3) := by decide +kernel
theorem dX7_off_8 : decode cX7_off 8 = .ok (.aload_n 0, 1) := by decide +kernel
theorem dX7_off_9 : decode cX7_off 9 = .ok (.iconst 1, 1) := by decide +kernel
theorem dX7_off_10 : decode cX7_off 10 = .ok (.invokevirtual 171, 3) := by decide +kernel
theorem dX7_off_13 : decode cX7_off 13 = .ok (.lreturn, 1) := by decide +kernel
theorem dX7_off_14 : decode cX7_off 14 = .ok (.iload_n 2, 1) := by decide +kernel
theorem dX7_off_15 : decode cX7_off 15 = .ok (.ifCond .lt 9, 3) := by decide +kernel
theorem dX7_off_18 : decode cX7_off 18 = .ok (.iload_n 2, 1) := by decide +kernel
theorem dX7_off_19 : decode cX7_off 19 = .ok (.bipush 40, 2) := by decide +kernel
theorem dX7_off_21 : decode cX7_off 21 = .ok (.if_icmp .le 9, 3) := by decide +kernel
theorem dX7_off_24 : decode cX7_off 24 = .ok (.aload_n 0, 1) := by decide +kernel
theorem dX7_off_25 : decode cX7_off 25 = .ok (.iconst 2, 1) := by decide +kernel
theorem dX7_off_26 : decode cX7_off 26 = .ok (.invokevirtual 171, 3) := by decide +kernel
theorem dX7_off_29 : decode cX7_off 29 = .ok (.lreturn, 1) := by decide +kernel
theorem dX7_off_30 : decode cX7_off 30 = .ok (.aload_n 0, 1) := by decide +kernel
theorem dX7_off_31 : decode cX7_off 31 = .ok (.getfield 54, 3) := by decide +kernel
theorem dX7_off_34 : decode cX7_off 34 = .ok (.invokevirtual 135, 3) := by decide +kernel
theorem dX7_off_37 : decode cX7_off 37 = .ok (.ifCond .ne 9, 3) := by decide +kernel
theorem dX7_off_40 : decode cX7_off 40 = .ok (.aload_n 0, 1) := by decide +kernel
theorem dX7_off_41 : decode cX7_off 41 = .ok (.iconst 5, 1) := by decide +kernel
theorem dX7_off_42 : decode cX7_off 42 = .ok (.invokevirtual 171, 3) := by decide +kernel
theorem dX7_off_45 : decode cX7_off 45 = .ok (.lreturn, 1) := by decide +kernel
theorem dX7_off_46 : decode cX7_off 46 = .ok (.aload_n 0, 1) := by decide +kernel
theorem dX7_off_47 : decode cX7_off 47 = .ok (.invokevirtual 79, 3) := by decide +kernel
theorem dX7_off_50 : decode cX7_off 50 = .ok (.aload_n 0, 1) := by decide +kernel
theorem dX7_off_51 : decode cX7_off 51 = .ok (.iload_n 1, 1) := by decide +kernel
theorem dX7_off_52 : decode cX7_off 52 = .ok (.iload_n 2, 1) := by decide +kernel
theorem dX7_off_53 : decode cX7_off 53 = .ok (.invokevirtual 265, 3) := by decide +kernel
theorem dX7_off_56 : decode cX7_off 56 = .ok (.aload_n 0, 1) := by decide +kernel
theorem dX7_off_57 : decode cX7_off 57 = .ok (.getfield 54, 3) := by decide +kernel
theorem dX7_off_60 : decode cX7_off 60 = .ok (.aload_n 0, 1) := by decide +kernel
theorem dX7_off_61 : decode cX7_off 61 = .ok (.getfield 38, 3) := by decide +kernel
theorem dX7_off_64 : decode cX7_off 64 = .ok (.invokevirtual 280, 3) := by decide +kernel
theorem dX7_off_67 : decode cX7_off 67 = .ok (.lreturn, 1) := by decide +kernel
theorem dX7_leak_0 : decode cX7_leak 0 = .ok (.aload_n 0, 1) := by decide +kernel
theorem dX7_leak_1 : decode cX7_leak 1 = .ok (.invokevirtual 101, 3) := by decide +kernel
theorem dX7_leak_4 : decode cX7_leak 4 = .ok (.ifCond .eq 12, 3) := by decide +kernel
theorem dX7_leak_7 : decode cX7_leak 7 = .ok (.iload_n 1, 1) := by decide +kernel
theorem dX7_leak_8 : decode cX7_leak 8 = .ok (.ifCond .lt 8, 3) := by decide +kernel
theorem dX7_leak_11 : decode cX7_leak 11 = .ok (.iload_n 1, 1) := by decide +kernel
theorem dX7_leak_12 : decode cX7_leak 12 = .ok (.iconst 2, 1) := by decide +kernel
theorem dX7_leak_13 : decode cX7_leak 13 = .ok (.if_icmp .le 9, 3) := by decide +kernel
theorem dX7_leak_16 : decode cX7_leak 16 = .ok (.aload_n 0, 1) := by decide +kernel
theorem dX7_leak_17 : decode cX7_leak 17 = .ok (.iconst 1, 1) := by decide +kernel
theorem dX7_leak_18 : decode cX7_leak 18 = .ok (.invokevirtual 171, 3) := by decide +kernel
theorem dX7_leak_21 : decode cX7_leak 21 = .ok (.lreturn, 1) := by decide +kernel
theorem dX7_leak_22 : decode cX7_leak 22 = .ok (.aload_n 0, 1) := by decide +kernel
theorem dX7_leak_23 : decode cX7_leak 23 = .ok (.getfield 54, 3) := by decide +kernel
theorem dX7_leak_26 : decode cX7_leak 26 = .ok (.invokevirtual 135, 3) := by decide +kernel
theorem dX7_leak_29 : decode cX7_leak 29 = .ok (.ifCond .ne 9, 3) := by decide +kernel
theorem dX7_leak_32 : decode cX7_leak 32 = .ok (.aload_n 0, 1) := by decide +kernel
theorem dX7_leak_33 : decode cX7_leak 33 = .ok (.iconst 5, 1) := by decide +kernel
theorem dX7_leak_34 : decode cX7_leak 34 = .ok (.invokevirtual 171, 3) := by decide +kernel
theorem dX7_leak_37 : decode cX7_leak 37 = .ok (.lreturn, 1) := by decide +kernel
theorem dX7_leak_38 : decode cX7_leak 38 = .ok (.aload_n 0, 1) := by decide +kernel
theorem dX7_leak_39 : decode cX7_leak 39 = .ok (.invokevirtual 79, 3) := by decide +kernel
theorem dX7_leak_42 : decode cX7_leak 42 = .ok (.aload_n 0, 1) := by decide +kernel
theorem dX7_leak_43 : decode cX7_leak 43 = .ok (.getfield 54, 3) := by decide +kernel
theorem dX7_leak_46 : decode cX7_leak 46 = .ok (.getfield 284, 3) := by decide +kernel
theorem dX7_leak_49 : decode cX7_leak 49 = .ok (.ifCond .ne 7, 3) := by decide +kernel
theorem dX7_leak_52 : decode cX7_leak 52 = .ok (.aload_n 0, 1) := by decide +kernel
theorem dX7_leak_53 : decode cX7_leak 53 = .ok (.invokevirtual 287, 3) := by decide +kernel
theorem dX7_leak_56 : decode cX7_leak 56 = .ok (.iload_n 1, 1) := by decide +kernel
theorem dX7_leak_57 : decode cX7_leak 57 = .ok (.lookupswitch 45 #[(0, 27), (1, 36)], 27) := by decide +kernel
theorem dX7_leak_84 : decode cX7_leak 84 = .ok (.aload_n 0, 1) := by decide +kernel
theorem dX7_leak_85 : decode cX7_leak 85 = .ok (.getfield 54, 3) := by decide +kernel
theorem dX7_leak_88 : decode cX7_leak 88 = .ok (.getfield 290, 3) := by decide +kernel
theorem dX7_leak_91 : decode cX7_leak 91 = .ok (.i2l, 1) := by decide +kernel
theorem dX7_leak_92 : decode cX7_leak 92 = .ok (.lreturn, 1) := by decide +kernel
theorem dX7_leak_93 : decode cX7_leak 93 = .ok (.aload_n 0, 1) := by decide +kernel
theorem dX7_leak_94 : decode cX7_leak 94 = .ok (.getfield 54, 3) := by decide +kernel
theorem dX7_leak_97 : decode cX7_leak 97 = .ok (.getfield 293, 3) := by decide +kernel
theorem dX7_leak_100 : decode cX7_leak 100 = .ok (.i2l, 1) := by decide +kernel
theorem dX7_leak_101 : decode cX7_leak 101 = .ok (.lreturn, 1) := by decide +kernel
theorem dX7_leak_102 : decode cX7_leak 102 = .ok (.aload_n 0, 1) := by decide +kernel
theorem dX7_leak_103 : decode cX7_leak 103 = .ok (.getfield 54, 3) := by decide +kernel
theorem dX7_leak_106 : decode cX7_leak 106 = .ok (.getfield 296, 3) := by decide +kernel
theorem dX7_leak_109 : decode cX7_leak 109 = .ok (.lreturn, 1) := by decide +kernel
theorem dX7_valve_0 : decode cX7_valve 0 = .ok (.aload_n 0, 1) := by decide +kernel
theorem dX7_valve_1 : decode cX7_valve 1 = .ok (.getfield 37, 3) := by decide +kernel
theorem dX7_valve_4 : decode cX7_valve 4 = .ok (.iload_n 1, 1) := by decide +kernel
theorem dX7_valve_5 : decode cX7_valve 5 = .ok (.invokevirtual 137, 3) := by decide +kernel
theorem dX7_valve_8 : decode cX7_valve 8 = .ok (.ifCond .ne 9, 3) := by decide +kernel
theorem dX7_valve_11 : decode cX7_valve 11 = .ok (.aload_n 0, 1) := by decide +kernel
theorem dX7_valve_12 : decode cX7_valve 12 = .ok (.iconst 1, 1) := by decide +kernel
theorem dX7_valve_13 : decode cX7_valve 13 = .ok (.invokevirtual 65, 3) := by decide +kernel
theorem dX7_valve_16 : decode cX7_valve 16 = .ok (.ireturn, 1) := by decide +kernel
theorem dX7_valve_17 : decode cX7_valve 17 = .ok (.aload_n 0, 1) := by decide +kernel
theorem dX7_valve_18 : decode cX7_valve 18 = .ok (.getfield 37, 3) := by decide +kernel
theorem dX7_valve_21 : decode cX7_valve 21 = .ok (.getfield 154, 3) := by decide +kernel
theorem dX7_valve_24 : decode cX7_valve 24 = .ok (.iload_n 1, 1) := by decide +kernel
theorem dX7_valve_25 : decode cX7_valve 25 = .ok (.invokestatic 157, 3) := by decide +kernel
theorem dX7_valve_28 : decode cX7_valve 28 = .ok (.istore_n 3, 1) := by decide +kernel
theorem dX7_valve_29 : decode cX7_valve 29 = .ok (.iload_n 3, 1) := by decide +kernel
theorem dX7_valve_30 : decode cX7_valve 30 = .ok (.iload_n 2, 1) := by decide +kernel
theorem dX7_valve_31 : decode cX7_valve 31 = .ok (.ifCond .eq 7, 3) := by decide +kernel
theorem dX7_valve_34 : decode cX7_valve 34 = .ok (.iconst 1, 1) := by decide +kernel
theorem dX7_valve_35 : decode cX7_valve 35 = .ok (.goto 4, 3) := by decide +kernel
theorem dX7_valve_38 : decode cX7_valve 38 = .ok (.iconst 0, 1) := by decide +kernel
theorem dX7_valve_39 : decode cX7_valve 39 = .ok (.if_icmp .ne 9, 3) := by decide +kernel
theorem dX7_valve_42 : decode cX7_valve 42 = .ok (.aload_n 0, 1) := by decide +kernel
theorem dX7_valve_43 : decode cX7_valve 43 = .ok (.iconst 5, 1) := by decide +kernel
theorem dX7_valve_44 : decode cX7_valve 44 = .ok (.invokevirtual 65, 3) := by decide +kernel
theorem dX7_valve_47 : decode cX7_valve 47 = .ok (.ireturn, 1) := by decide +kernel
theorem dX7_valve_48 : decode cX7_valve 48 = .ok (.aload_n 0, 1) := by decide +kernel
theorem dX7_valve_49 : decode cX7_valve 49 = .ok (.invokevirtual 79, 3) := by decide +kernel
theorem dX7_valve_52 : decode cX7_valve 52 = .ok (.aload_n 0, 1) := by decide +kernel
theorem dX7_valve_53 : decode cX7_valve 53 = .ok (.getfield 47, 3) := by decide +kernel
theorem dX7_valve_56 : decode cX7_valve 56 = .ok (.iconst 0, 1) := by decide +kernel
theorem dX7_valve_57 : decode cX7_valve 57 = .ok (.iload_n 1, 1) := by decide +kernel
theorem dX7_valve_58 : decode cX7_valve 58 = .ok (.iload_n 3, 1) := by decide +kernel
theorem dX7_valve_59 : decode cX7_valve 59 = .ok (.invokevirtual 300, 3) := by decide +kernel
theorem dX7_valve_62 : decode cX7_valve 62 = .ok (.aload_n 0, 1) := by decide +kernel
theorem dX7_valve_63 : decode cX7_valve 63 = .ok (.getfield 37, 3) := by decide +kernel
theorem dX7_valve_66 : decode cX7_valve 66 = .ok (.dup, 1) := by decide +kernel
theorem dX7_valve_67 : decode cX7_valve 67 = .ok (.getfield 154, 3) := by decide +kernel
theorem dX7_valve_70 : decode cX7_valve 70 = .ok (.iconst 1, 1) := by decide +kernel
theorem dX7_valve_71 : decode cX7_valve 71 = .ok (.iload_n 1, 1) := by decide +kernel
theorem dX7_valve_72 : decode cX7_valve 72 = .ok (.ishl, 1) := by decide +kernel
theorem dX7_valve_73 : decode cX7_valve 73 = .ok (.ixor, 1) := by decide +kernel
theorem dX7_valve_74 : decode cX7_valve 74 = .ok (.putfield 154, 3) := by decide +kernel
theorem dX7_valve_77 : decode cX7_valve 77 = .ok (.aload_n 0, 1) := by decide +kernel
theorem dX7_valve_78 : decode cX7_valve 78 = .ok (.invokevirtual 95, 3) := by decide +kernel
theorem dX7_valve_81 : decode cX7_valve 81 = .ok (.aload_n 0, 1) := by decide +kernel
theorem dX7_valve_82 : decode cX7_valve 82 = .ok (.getfield 29, 3) := by decide +kernel
theorem dX7_valve_85 : decode cX7_valve 85 = .ok (.invokevirtual 129, 3) := by decide +kernel
theorem dX7_valve_88 : decode cX7_valve 88 = .ok (.invokestatic 303, 3) := by decide +kernel
theorem dX7_valve_91 : decode cX7_valve 91 = .ok (.ireturn, 1) := by decide +kernel
theorem dX7_draw_0 : decode cX7_draw 0 = .ok (.aload_n 0, 1) := by decide +kernel
theorem dX7_draw_1 : decode cX7_draw 1 = .ok (.iload_n 1, 1) := by decide +kernel
theorem dX7_draw_2 : decode cX7_draw 2 = .ok (.invokevirtual 232, 3) := by decide +kernel
theorem dX7_draw_5 : decode cX7_draw 5 = .ok (.ifCond .ne 9, 3) := by decide +kernel
theorem dX7_draw_8 : decode cX7_draw 8 = .ok (.aload_n 0, 1) := by decide +kernel
theorem dX7_draw_9 : decode cX7_draw 9 = .ok (.iconst 1, 1) := by decide +kernel
theorem dX7_draw_10 : decode cX7_draw 10 = .ok (.invokevirtual 65, 3) := by decide +kernel
theorem dX7_draw_13 : decode cX7_draw 13 = .ok (.ireturn, 1) := by decide +kernel
theorem dX7_draw_14 : decode cX7_draw 14 = .ok (.iload_n 2, 1) := by decide +kernel
theorem dX7_draw_15 : decode cX7_draw 15 = .ok (.ifCond .lt 9, 3) := by decide +kernel
theorem dX7_draw_18 : decode cX7_draw 18 = .ok (.iload_n 2, 1) := by decide +kernel
theorem dX7_draw_19 : decode cX7_draw 19 = .ok (.bipush 60, 2) := by decide +kernel
theorem dX7_draw_21 : decode cX7_draw 21 = .ok (.if_icmp .le 9, 3) := by decide +kernel
theorem dX7_draw_24 : decode cX7_draw 24 = .ok (.aload_n 0, 1) := by decide +kernel
theorem dX7_draw_25 : decode cX7_draw 25 = .ok (.iconst 2, 1) := by decide +kernel
theorem dX7_draw_26 : decode cX7_draw 26 = .ok (.invokevirtual 65, 3) := by decide +kernel
theorem dX7_draw_29 : decode cX7_draw 29 = .ok (.ireturn, 1) := by decide +kernel
theorem dX7_draw_30 : decode cX7_draw 30 = .ok (.aload_n 0, 1) := by decide +kernel
theorem dX7_draw_31 : decode cX7_draw 31 = .ok (.invokevirtual 79, 3) := by decide +kernel
theorem dX7_draw_34 : decode cX7_draw 34 = .ok (.aload_n 0, 1) := by decide +kernel
theorem dX7_draw_35 : decode cX7_draw 35 = .ok (.getfield 37, 3) := by decide +kernel
theorem dX7_draw_38 : decode cX7_draw 38 = .ok (.getfield 186, 3) := by decide +kernel
theorem dX7_draw_41 : decode cX7_draw 41 = .ok (.iload_n 1, 1) := by decide +kernel
theorem dX7_draw_42 : decode cX7_draw 42 = .ok (.iaload, 1) := by decide +kernel
theorem dX7_draw_43 : decode cX7_draw 43 = .ok (.istore_n 3, 1) := by decide +kernel
theorem dX7_draw_44 : decode cX7_draw 44 = .ok (.aload_n 0, 1) := by decide +kernel
theorem dX7_draw_45 : decode cX7_draw 45 = .ok (.getfield 47, 3) := by decide +kernel
theorem dX7_draw_48 : decode cX7_draw 48 = .ok (.iconst 1, 1) := by decide +kernel
theorem dX7_draw_49 : decode cX7_draw 49 = .ok (.iload_n 1, 1) := by decide +kernel
theorem dX7_draw_50 : decode cX7_draw 50 = .ok (.iload_n 3, 1) := by decide +kernel
theorem dX7_draw_51 : decode cX7_draw 51 = .ok (.invokevirtual 300, 3) := by decide +kernel
theorem dX7_draw_54 : decode cX7_draw 54 = .ok (.aload_n 0, 1) := by decide +kernel
theorem dX7_draw_55 : decode cX7_draw 55 = .ok (.getfield 37, 3) := by decide +kernel
theorem dX7_draw_58 : decode cX7_draw 58 = .ok (.getfield 186, 3) := by decide +kernel
theorem dX7_draw_61 : decode cX7_draw 61 = .ok (.iload_n 1, 1) := by decide +kernel
theorem dX7_draw_62 : decode cX7_draw 62 = .ok (.iload_n 2, 1) := by decide +kernel
theorem dX7_draw_63 : decode cX7_draw 63 = .ok (.iastore, 1) := by decide +kernel
theorem dX7_draw_64 : decode cX7_draw 64 = .ok (.aload_n 0, 1) := by decide +kernel
theorem dX7_draw_65 : decode cX7_draw 65 = .ok (.invokevirtual 95, 3) := by decide +kernel
theorem dX7_draw_68 : decode cX7_draw 68 = .ok (.iload_n 3, 1) := by decide +kernel
theorem dX7_draw_69 : decode cX7_draw 69 = .ok (.ireturn, 1) := by decide +kernel
theorem dX7_well_0 : decode cX7_well 0 = .ok (.aload_n 0, 1) := by decide +kernel
theorem dX7_well_1 : decode cX7_well 1 = .ok (.invokevirtual 101, 3) := by decide +kernel
theorem dX7_well_4 : decode cX7_well 4 = .ok (.ifCond .ne 9, 3) := by decide +kernel
theorem dX7_well_7 : decode cX7_well 7 = .ok (.aload_n 0, 1) := by decide +kernel
theorem dX7_well_8 : decode cX7_well 8 = .ok (.iconst 1, 1) := by decide +kernel
theorem dX7_well_9 : decode cX7_well 9 = .ok (.invokevirtual 65, 3) := by decide +kernel
theorem dX7_well_12 : decode cX7_well 12 = .ok (.ireturn, 1) := by decide +kernel
theorem dX7_well_13 : decode cX7_well 13 = .ok (.iload_n 1, 1) := by decide +kernel
theorem dX7_well_14 : decode cX7_well 14 = .ok (.ifCond .lt 10, 3) := by decide +kernel
theorem dX7_well_17 : decode cX7_well 17 = .ok (.iload_n 1, 1) := by decide +kernel
theorem dX7_well_18 : decode cX7_well 18 = .ok (.sipush 999, 3) := by decide +kernel
theorem dX7_well_21 : decode cX7_well 21 = .ok (.if_icmp .le 9, 3) := by decide +kernel
theorem dX7_well_24 : decode cX7_well 24 = .ok (.aload_n 0, 1) := by decide +kernel
theorem dX7_well_25 : decode cX7_well 25 = .ok (.iconst 2, 1) := by decide +kernel
theorem dX7_well_26 : decode cX7_well 26 = .ok (.invokevirtual 65, 3) := by decide +kernel
theorem dX7_well_29 : decode cX7_well 29 = .ok (.ireturn, 1) := by decide +kernel
theorem dX7_well_30 : decode cX7_well 30 = .ok (.aload_n 0, 1) := by decide +kernel
theorem dX7_well_31 : decode cX7_well 31 = .ok (.invokevirtual 79, 3) := by decide +kernel
theorem dX7_well_34 : decode cX7_well 34 = .ok (.aload_n 0, 1) := by decide +kernel
theorem dX7_well_35 : decode cX7_well 35 = .ok (.getfield 37, 3) := by decide +kernel
theorem dX7_well_38 : decode cX7_well 38 = .ok (.getfield 308, 3) := by decide +kernel
theorem dX7_well_41 : decode cX7_well 41 = .ok (.istore_n 2, 1) := by decide +kernel
theorem dX7_well_42 : decode cX7_well 42 = .ok (.aload_n 0, 1) := by decide +kernel
theorem dX7_well_43 : decode cX7_well 43 = .ok (.getfield 47, 3) := by decide +kernel
theorem dX7_well_46 : decode cX7_well 46 = .ok (.iconst 2, 1) := by decide +kernel
theorem dX7_well_47 : decode cX7_well 47 = .ok (.iconst 0, 1) := by decide +kernel
theorem dX7_well_48 : decode cX7_well 48 = .ok (.iload_n 2, 1) := by decide +kernel
theorem dX7_well_49 : decode cX7_well 49 = .ok (.invokevirtual 300, 3) := by decide +kernel
theorem dX7_well_52 : decode cX7_well 52 = .ok (.aload_n 0, 1) := by decide +kernel
theorem dX7_well_53 : decode cX7_well 53 = .ok (.getfield 37, 3) := by decide +kernel
theorem dX7_well_56 : decode cX7_well 56 = .ok (.iload_n 1, 1) := by decide +kernel
theorem dX7_well_57 : decode cX7_well 57 = .ok (.putfield 308, 3) := by decide +kernel
theorem dX7_well_60 : decode cX7_well 60 = .ok (.aload_n 0, 1) := by decide +kernel
theorem dX7_well_61 : decode cX7_well 61 = .ok (.invokevirtual 95, 3) := by decide +kernel
theorem dX7_well_64 : decode cX7_well 64 = .ok (.iload_n 2, 1) := by decide +kernel
theorem dX7_well_65 : decode cX7_well 65 = .ok (.ireturn, 1) := by decide +kernel
theorem dX7_resist_0 : decode cX7_resist 0 = .ok (.aload_n 0, 1) := by decide +kernel
theorem dX7_resist_1 : decode cX7_resist 1 = .ok (.getfield 37, 3) := by decide +kernel
theorem dX7_resist_4 : decode cX7_resist 4 = .ok (.iload_n 1, 1) := by decide +kernel
theorem dX7_resist_5 : decode cX7_resist 5 = .ok (.invokevirtual 137, 3) := by decide +kernel
theorem dX7_resist_8 : decode cX7_resist 8 = .ok (.ifCond .ne 9, 3) := by decide +kernel
theorem dX7_resist_11 : decode cX7_resist 11 = .ok (.aload_n 0, 1) := by decide +kernel
theorem dX7_resist_12 : decode cX7_resist 12 = .ok (.iconst 1, 1) := by decide +kernel
theorem dX7_resist_13 : decode cX7_resist 13 = .ok (.invokevirtual 65, 3) := by decide +kernel
theorem dX7_resist_16 : decode cX7_resist 16 = .ok (.ireturn, 1) := by decide +kernel
theorem dX7_resist_17 : decode cX7_resist 17 = .ok (.aload_n 0, 1) := by decide +kernel
theorem dX7_resist_18 : decode cX7_resist 18 = .ok (.getfield 37, 3) := by decide +kernel
theorem dX7_resist_21 : decode cX7_resist 21 = .ok (.getfield 148, 3) := by decide +kernel
theorem dX7_resist_24 : decode cX7_resist 24 = .ok (.iload_n 1, 1) := by decide +kernel
theorem dX7_resist_25 : decode cX7_resist 25 = .ok (.iaload, 1) := by decide +kernel
theorem dX7_resist_26 : decode cX7_resist 26 = .ok (.iconst 2, 1) := by decide +kernel
theorem dX7_resist_27 : decode cX7_resist 27 = .ok (.if_icmp .ne 9, 3) := by decide +kernel
theorem dX7_resist_30 : decode cX7_resist 30 = .ok (.aload_n 0, 1) := by decide +kernel
theorem dX7_resist_31 : decode cX7_resist 31 = .ok (.iconst 5, 1) := by decide +kernel
theorem dX7_resist_32 : decode cX7_resist 32 = .ok (.invokevirtual 65, 3) := by decide +kernel
theorem dX7_resist_35 : decode cX7_resist 35 = .ok (.ireturn, 1) := by decide +kernel
theorem dX7_resist_36 : decode cX7_resist 36 = .ok (.iload_n 2, 1) := by decide +kernel
theorem dX7_resist_37 : decode cX7_resist 37 = .ok (.iconst 1, 1) := by decide +kernel
theorem dX7_resist_38 : decode cX7_resist 38 = .ok (.if_icmp .lt 9, 3) := by decide +kernel
theorem dX7_resist_41 : decode cX7_resist 41 = .ok (.iload_n 2, 1) := by decide +kernel
theorem dX7_resist_42 : decode cX7_resist 42 = .ok (.bipush 20, 2) := by decide +kernel
theorem dX7_resist_44 : decode cX7_resist 44 = .ok (.if_icmp .le 9, 3) := by decide +kernel
theorem dX7_resist_47 : decode cX7_resist 47 = .ok (.aload_n 0, 1) := by decide +kernel
theorem dX7_resist_48 : decode cX7_resist 48 = .ok (.iconst 2, 1) := by decide +kernel
theorem dX7_resist_49 : decode cX7_resist 49 = .ok (.invokevirtual 65, 3) := by decide +kernel
theorem dX7_resist_52 : decode cX7_resist 52 = .ok (.ireturn, 1) := by decide +kernel
theorem dX7_resist_53 : decode cX7_resist 53 = .ok (.aload_n 0, 1) := by decide +kernel
theorem dX7_resist_54 : decode cX7_resist 54 = .ok (.invokevirtual 79, 3) := by decide +kernel
theorem dX7_resist_57 : decode cX7_resist 57 = .ok (.aload_n 0, 1) := by decide +kernel
theorem dX7_resist_58 : decode cX7_resist 58 = .ok (.getfield 37, 3) := by decide +kernel
theorem dX7_resist_61 : decode cX7_resist 61 = .ok (.getfield 151, 3) := by decide +kernel
theorem dX7_resist_64 : decode cX7_resist 64 = .ok (.iload_n 1, 1) := by decide +kernel
theorem dX7_resist_65 : decode cX7_resist 65 = .ok (.iaload, 1) := by decide +kernel
theorem dX7_resist_66 : decode cX7_resist 66 = .ok (.istore_n 3, 1) := by decide +kernel
theorem dX7_resist_67 : decode cX7_resist 67 = .ok (.aload_n 0, 1) := by decide +kernel
theorem dX7_resist_68 : decode cX7_resist 68 = .ok (.getfield 47, 3) := by decide +kernel
theorem dX7_resist_71 : decode cX7_resist 71 = .ok (.iconst 3, 1) := by decide +kernel
theorem dX7_resist_72 : decode cX7_resist 72 = .ok (.iload_n 1, 1) := by decide +kernel
theorem dX7_resist_73 : decode cX7_resist 73 = .ok (.iload_n 3, 1) := by decide +kernel
theorem dX7_resist_74 : decode cX7_resist 74 = .ok (.invokevirtual 300, 3) := by decide +kernel
theorem dX7_resist_77 : decode cX7_resist 77 = .ok (.aload_n 0, 1) := by decide +kernel
theorem dX7_resist_78 : decode cX7_resist 78 = .ok (.getfield 37, 3) := by decide +kernel
theorem dX7_resist_81 : decode cX7_resist 81 = .ok (.getfield 151, 3) := by decide +kernel
theorem dX7_resist_84 : decode cX7_resist 84 = .ok (.iload_n 1, 1) := by decide +kernel
theorem dX7_resist_85 : decode cX7_resist 85 = .ok (.iload_n 2, 1) := by decide +kernel
theorem dX7_resist_86 : decode cX7_resist 86 = .ok (.iastore, 1) := by decide +kernel
theorem dX7_resist_87 : decode cX7_resist 87 = .ok (.aload_n 0, 1) := by decide +kernel
theorem dX7_resist_88 : decode cX7_resist 88 = .ok (.invokevirtual 95, 3) := by decide +kernel
theorem dX7_resist_91 : decode cX7_resist 91 = .ok (.iload_n 3, 1) := by decide +kernel
theorem dX7_resist_92 : decode cX7_resist 92 = .ok (.ireturn, 1) := by decide +kernel
theorem dX7_undo_0 : decode cX7_undo 0 = .ok (.aload_n 0, 1) := by decide +kernel
theorem dX7_undo_1 : decode cX7_undo 1 = .ok (.invokevirtual 101, 3) := by decide +kernel
theorem dX7_undo_4 : decode cX7_undo 4 = .ok (.ifCond .ne 9, 3) := by decide +kernel
theorem dX7_undo_7 : decode cX7_undo 7 = .ok (.aload_n 0, 1) := by decide +kernel
theorem dX7_undo_8 : decode cX7_undo 8 = .ok (.iconst 1, 1) := by decide +kernel
theorem dX7_undo_9 : decode cX7_undo 9 = .ok (.invokevirtual 65, 3) := by decide +kernel
theorem dX7_undo_12 : decode cX7_undo 12 = .ok (.ireturn, 1) := by decide +kernel
theorem dX7_undo_13 : decode cX7_undo 13 = .ok (.aload_n 0, 1) := by decide +kernel
theorem dX7_undo_14 : decode cX7_undo 14 = .ok (.getfield 47, 3) := by decide +kernel
theorem dX7_undo_17 : decode cX7_undo 17 = .ok (.getfield 89, 3) := by decide +kernel
theorem dX7_undo_20 : decode cX7_undo 20 = .ok (.ifCond .ne 9, 3) := by decide +kernel
theorem dX7_undo_23 : decode cX7_undo 23 = .ok (.aload_n 0, 1) := by decide +kernel
theorem dX7_undo_24 : decode cX7_undo 24 = .ok (.iconst 5, 1) := by decide +kernel
theorem dX7_undo_25 : decode cX7_undo 25 = .ok (.invokevirtual 65, 3) := by decide +kernel
theorem dX7_undo_28 : decode cX7_undo 28 = .ok (.ireturn, 1) := by decide +kernel
theorem dX7_undo_29 : decode cX7_undo 29 = .ok (.aload_n 0, 1) := by decide +kernel
theorem dX7_undo_30 : decode cX7_undo 30 = .ok (.invokevirtual 79, 3) := by decide +kernel
theorem dX7_undo_33 : decode cX7_undo 33 = .ok (.aload_n 0, 1) := by decide +kernel
theorem dX7_undo_34 : decode cX7_undo 34 = .ok (.getfield 47, 3) := by decide +kernel
theorem dX7_undo_37 : decode cX7_undo 37 = .ok (.aload_n 0, 1) := by decide +kernel
theorem dX7_undo_38 : decode cX7_undo 38 = .ok (.getfield 37, 3) := by decide +kernel
theorem dX7_undo_41 : decode cX7_undo 41 = .ok (.invokevirtual 311, 3) := by decide +kernel
theorem dX7_undo_44 : decode cX7_undo 44 = .ok (.aload_n 0, 1) := by decide +kernel
theorem dX7_undo_45 : decode cX7_undo 45 = .ok (.invokevirtual 95, 3) := by decide +kernel
theorem dX7_undo_48 : decode cX7_undo 48 = .ok (.aload_n 0, 1) := by decide +kernel
theorem dX7_undo_49 : decode cX7_undo 49 = .ok (.getfield 47, 3) := by decide +kernel
theorem dX7_undo_52 : decode cX7_undo 52 = .ok (.getfield 89, 3) := by decide +kernel
theorem dX7_undo_55 : decode cX7_undo 55 = .ok (.ireturn, 1) := by decide +kernel
theorem dX7_named_0 : decode cX7_named 0 = .ok (.iload_n 1, 1) := by decide +kernel
theorem dX7_named_1 : decode cX7_named 1 = .ok (.ifCond .lt 11, 3) := by decide +kernel
theorem dX7_named_4 : decode cX7_named 4 = .ok (.iload_n 1, 1) := by decide +kernel
theorem dX7_named_5 : decode cX7_named 5 = .ok (.aload_n 0, 1) := by decide +kernel
theorem dX7_named_6 : decode cX7_named 6 = .ok (.getfield 58, 3) := by decide +kernel
theorem dX7_named_9 : decode cX7_named 9 = .ok (.if_icmp .le 7, 3) := by decide +kernel
theorem dX7_named_12 : decode cX7_named 12 = .ok (.iconst (-1), 1) := by decide +kernel
theorem dX7_named_13 : decode cX7_named 13 = .ok (.goto 18, 3) := by decide +kernel
theorem dX7_named_16 : decode cX7_named 16 = .ok (.aload_n 0, 1) := by decide +kernel
theorem dX7_named_17 : decode cX7_named 17 = .ok (.getfield 37, 3) := by decide +kernel
theorem dX7_named_20 : decode cX7_named 20 = .ok (.aload_n 0, 1) := by decide +kernel
theorem dX7_named_21 : decode cX7_named 21 = .ok (.getfield 11, 3) := by decide +kernel
theorem dX7_named_24 : decode cX7_named 24 = .ok (.iload_n 1, 1) := by decide +kernel
theorem dX7_named_25 : decode cX7_named 25 = .ok (.invokestatic 314, 3) := by decide +kernel
theorem dX7_named_28 : decode cX7_named 28 = .ok (.invokevirtual 318, 3) := by decide +kernel
theorem dX7_named_31 : decode cX7_named 31 = .ok (.istore_n 2, 1) := by decide +kernel
theorem dX7_named_32 : decode cX7_named 32 = .ok (.iload_n 2, 1) := by decide +kernel
theorem dX7_named_33 : decode cX7_named 33 = .ok (.iconst (-1), 1) := by decide +kernel
theorem dX7_named_34 : decode cX7_named 34 = .ok (.if_icmp .ne 11, 3) := by decide +kernel
theorem dX7_named_37 : decode cX7_named 37 = .ok (.new 322, 3) := by decide +kernel
theorem dX7_named_40 : decode cX7_named 40 = .ok (.dup, 1) := by decide +kernel
theorem dX7_named_41 : decode cX7_named 41 = .ok (.invokespecial 324, 3) := by decide +kernel
theorem dX7_named_44 : decode cX7_named 44 = .ok (.athrow, 1) := by decide +kernel
theorem dX7_named_45 : decode cX7_named 45 = .ok (.iload_n 2, 1) := by decide +kernel
theorem dX7_named_46 : decode cX7_named 46 = .ok (.ireturn, 1) := by decide +kernel
theorem dX7_size_0 : decode cX7_size 0 = .ok (.aload_n 0, 1) := by decide +kernel
theorem dX7_size_1 : decode cX7_size 1 = .ok (.getfield 58, 3) := by decide +kernel
theorem dX7_size_4 : decode cX7_size 4 = .ok (.ireturn, 1) := by decide +kernel
theorem dX7_trouble_0 : decode cX7_trouble 0 = .ok (.aload_n 0, 1) := by decide +kernel
theorem dX7_trouble_1 : decode cX7_trouble 1 = .ok (.getfield 325, 3) := by decide +kernel
theorem dX7_trouble_4 : decode cX7_trouble 4 = .ok (.ireturn, 1) := by decide +kernel
theorem dX7_refuse_0 : decode cX7_refuse 0 = .ok (.aload_n 0, 1) := by decide +kernel
theorem dX7_refuse_1 : decode cX7_refuse 1 = .ok (.iload_n 1, 1) := by decide +kernel
theorem dX7_refuse_2 : decode cX7_refuse 2 = .ok (.putfield 325, 3) := by decide +kernel
theorem dX7_refuse_5 : decode cX7_refuse 5 = .ok (.aload_n 0, 1) := by decide +kernel
theorem dX7_refuse_6 : decode cX7_refuse 6 = .ok (.iconst (-1), 1) := by decide +kernel
theorem dX7_refuse_7 : decode cX7_refuse 7 = .ok (.putfield 15, 3) := by decide +kernel
theorem dX7_refuse_10 : decode cX7_refuse 10 = .ok (.iconst (-1), 1) := by decide +kernel
theorem dX7_refuse_11 : decode cX7_refuse 11 = .ok (.ireturn, 1) := by decide +kernel
theorem dX7_refuseLong_0 : decode cX7_refuseLong 0 = .ok (.aload_n 0, 1) := by decide +kernel
theorem dX7_refuseLong_1 : decode cX7_refuseLong 1 = .ok (.iload_n 1, 1) := by decide +kernel
theorem dX7_refuseLong_2 : decode cX7_refuseLong 2 = .ok (.invokevirtual 65, 3) := by decide +kernel
theorem dX7_refuseLong_5 : decode cX7_refuseLong 5 = .ok (.pop, 1) := by decide +kernel
theorem dX7_refuseLong_6 : decode cX7_refuseLong 6 = .ok (.ldc2_w 254, 3) := by decide +kernel
theorem dX7_refuseLong_9 : decode cX7_refuseLong 9 = .ok (.lreturn, 1) := by decide +kernel
theorem dX7_allow_0 : decode cX7_allow 0 = .ok (.aload_n 0, 1) := by decide +kernel
theorem dX7_allow_1 : decode cX7_allow 1 = .ok (.iconst 0, 1) := by decide +kernel
theorem dX7_allow_2 : decode cX7_allow 2 = .ok (.putfield 325, 3) := by decide +kernel
theorem dX7_allow_5 : decode cX7_allow 5 = .ok (.aload_n 0, 1) := by decide +kernel
theorem dX7_allow_6 : decode cX7_allow 6 = .ok (.iconst (-1), 1) := by decide +kernel
theorem dX7_allow_7 : decode cX7_allow 7 = .ok (.putfield 15, 3) := by decide +kernel
theorem dX7_allow_10 : decode cX7_allow 10 = .ok (.return_, 1) := by decide +kernel
theorem dX7_hasText_0 : decode cX7_hasText 0 = .ok (.aload_n 0, 1) := by decide +kernel
theorem dX7_hasText_1 : decode cX7_hasText 1 = .ok (.getfield 37, 3) := by decide +kernel
theorem dX7_hasText_4 : decode cX7_hasText 4 = .ok (.getfield 98, 3) := by decide +kernel
theorem dX7_hasText_7 : decode cX7_hasText 7 = .ok (.ifCond .le 7, 3) := by decide +kernel
theorem dX7_hasText_10 : decode cX7_hasText 10 = .ok (.iconst 1, 1) := by decide +kernel
theorem dX7_hasText_11 : decode cX7_hasText 11 = .ok (.goto 4, 3) := by decide +kernel
theorem dX7_hasText_14 : decode cX7_hasText 14 = .ok (.iconst 0, 1) := by decide +kernel
theorem dX7_hasText_15 : decode cX7_hasText 15 = .ok (.ireturn, 1) := by decide +kernel
theorem dX7_isDrawingJoint_0 : decode cX7_isDrawingJoint 0 = .ok (.iload_n 1, 1) := by decide +kernel
theorem dX7_isDrawingJoint_1 : decode cX7_isDrawingJoint 1 = .ok (.ifCond .eq 18, 3) := by decide +kernel
theorem dX7_isDrawingJoint_4 : decode cX7_isDrawingJoint 4 = .ok (.aload_n 0, 1) := by decide +kernel
theorem dX7_isDrawingJoint_5 : decode cX7_isDrawingJoint 5 = .ok (.getfield 37, 3) := by decide +kernel
theorem dX7_isDrawingJoint_8 : decode cX7_isDrawingJoint 8 = .ok (.iload_n 1, 1) := by decide +kernel
theorem dX7_isDrawingJoint_9 : decode cX7_isDrawingJoint 9 = .ok (.invokevirtual 183, 3) := by decide +kernel
theorem dX7_isDrawingJoint_12 : decode cX7_isDrawingJoint 12 = .ok (.ifCond .eq 7, 3) := by decide +kernel
theorem dX7_isDrawingJoint_15 : decode cX7_isDrawingJoint 15 = .ok (.iconst 1, 1) := by decide +kernel
theorem dX7_isDrawingJoint_16 : decode cX7_isDrawingJoint 16 = .ok (.goto 4, 3) := by decide +kernel
theorem dX7_isDrawingJoint_19 : decode cX7_isDrawingJoint 19 = .ok (.iconst 0, 1) := by decide +kernel
theorem dX7_isDrawingJoint_20 : decode cX7_isDrawingJoint 20 = .ok (.ireturn, 1) := by decide +kernel
theorem dX7_hasRing_0 : decode cX7_hasRing 0 = .ok (.aload_n 0, 1) := by decide +kernel
theorem dX7_hasRing_1 : decode cX7_hasRing 1 = .ok (.invokevirtual 101, 3) := by decide +kernel
theorem dX7_hasRing_4 : decode cX7_hasRing 4 = .ok (.ifCond .eq 25, 3) := by decide +kernel
theorem dX7_hasRing_7 : decode cX7_hasRing 7 = .ok (.iload_n 1, 1) := by decide +kernel
theorem dX7_hasRing_8 : decode cX7_hasRing 8 = .ok (.ifCond .lt 21, 3) := by decide +kernel
theorem dX7_hasRing_11 : decode cX7_hasRing 11 = .ok (.iload_n 1, 1) := by decide +kernel
theorem dX7_hasRing_12 : decode cX7_hasRing 12 = .ok (.aload_n 0, 1) := by decide +kernel
theorem dX7_hasRing_13 : decode cX7_hasRing 13 = .ok (.getfield 29, 3) := by decide +kernel
theorem dX7_hasRing_16 : decode cX7_hasRing 16 = .ok (.getfield 108, 3) := by decide +kernel
theorem dX7_hasRing_19 : decode cX7_hasRing 19 = .ok (.getfield 112, 3) := by decide +kernel
theorem dX7_hasRing_22 : decode cX7_hasRing 22 = .ok (.if_icmp .ge 7, 3) := by decide +kernel
theorem dX7_hasRing_25 : decode cX7_hasRing 25 = .ok (.iconst 1, 1) := by decide +kernel
theorem dX7_hasRing_26 : decode cX7_hasRing 26 = .ok (.goto 4, 3) := by decide +kernel
theorem dX7_hasRing_29 : decode cX7_hasRing 29 = .ok (.iconst 0, 1) := by decide +kernel
theorem dX7_hasRing_30 : decode cX7_hasRing 30 = .ok (.ireturn, 1) := by decide +kernel
theorem dX7_whyNoWaterAt_0 : decode cX7_whyNoWaterAt 0 = .ok (.aload_n 0, 1) := by decide +kernel
theorem dX7_whyNoWaterAt_1 : decode cX7_whyNoWaterAt 1 = .ok (.getfield 37, 3) := by decide +kernel
theorem dX7_whyNoWaterAt_4 : decode cX7_whyNoWaterAt 4 = .ok (.iload_n 1, 1) := by decide +kernel
theorem dX7_whyNoWaterAt_5 : decode cX7_whyNoWaterAt 5 = .ok (.invokevirtual 183, 3) := by decide +kernel
theorem dX7_whyNoWaterAt_8 : decode cX7_whyNoWaterAt 8 = .ok (.ifCond .ne 5, 3) := by decide +kernel
theorem dX7_whyNoWaterAt_11 : decode cX7_whyNoWaterAt 11 = .ok (.iconst 1, 1) := by decide +kernel
theorem dX7_whyNoWaterAt_12 : decode cX7_whyNoWaterAt 12 = .ok (.ireturn, 1) := by decide +kernel
theorem dX7_whyNoWaterAt_13 : decode cX7_whyNoWaterAt 13 = .ok (.aload_n 0, 1) := by decide +kernel
theorem dX7_whyNoWaterAt_14 : decode cX7_whyNoWaterAt 14 = .ok (.getfield 29, 3) := by decide +kernel
theorem dX7_whyNoWaterAt_17 : decode cX7_whyNoWaterAt 17 = .ok (.getfield 161, 3) := by decide +kernel
theorem dX7_whyNoWaterAt_20 : decode cX7_whyNoWaterAt 20 = .ok (.getfield 328, 3) := by decide +kernel
theorem dX7_whyNoWaterAt_23 : decode cX7_whyNoWaterAt 23 = .ok (.iload_n 1, 1) := by decide +kernel
theorem dX7_whyNoWaterAt_24 : decode cX7_whyNoWaterAt 24 = .ok (.invokestatic 157, 3) := by decide +kernel
theorem dX7_whyNoWaterAt_27 : decode cX7_whyNoWaterAt 27 = .ok (.ifCond .ne 7, 3) := by decide +kernel
theorem dX7_whyNoWaterAt_30 : decode cX7_whyNoWaterAt 30 = .ok (.iconst 5, 1) := by decide +kernel
theorem dX7_whyNoWaterAt_31 : decode cX7_whyNoWaterAt 31 = .ok (.goto 4, 3) := by decide +kernel
theorem dX7_whyNoWaterAt_34 : decode cX7_whyNoWaterAt 34 = .ok (.iconst 0, 1) := by decide +kernel
theorem dX7_whyNoWaterAt_35 : decode cX7_whyNoWaterAt 35 = .ok (.ireturn, 1) := by decide +kernel
theorem dX7_isPressureAsked_0 : decode cX7_isPressureAsked 0 = .ok (.iload_n 0, 1) := by decide +kernel
theorem dX7_isPressureAsked_1 : decode cX7_isPressureAsked 1 = .ok (.sipush (-30000), 3) := by decide +kernel
theorem dX7_isPressureAsked_4 : decode cX7_isPressureAsked 4 = .ok (.if_icmp .lt 14, 3) := by decide +kernel
theorem dX7_isPressureAsked_7 : decode cX7_isPressureAsked 7 = .ok (.iload_n 0, 1) := by decide +kernel
theorem dX7_isPressureAsked_8 : decode cX7_isPressureAsked 8 = .ok (.ldc_w 331, 3) := by decide +kernel
theorem dX7_isPressureAsked_11 : decode cX7_isPressureAsked 11 = .ok (.if_icmp .gt 7, 3) := by decide +kernel
theorem dX7_isPressureAsked_14 : decode cX7_isPressureAsked 14 = .ok (.iconst 1, 1) := by decide +kernel
theorem dX7_isPressureAsked_15 : decode cX7_isPressureAsked 15 = .ok (.goto 4, 3) := by decide +kernel
theorem dX7_isPressureAsked_18 : decode cX7_isPressureAsked 18 = .ok (.iconst 0, 1) := by decide +kernel
theorem dX7_isPressureAsked_19 : decode cX7_isPressureAsked 19 = .ok (.ireturn, 1) := by decide +kernel
theorem dX7_bit_0 : decode cX7_bit 0 = .ok (.iload_n 0, 1) := by decide +kernel
theorem dX7_bit_1 : decode cX7_bit 1 = .ok (.iload_n 1, 1) := by decide +kernel
theorem dX7_bit_2 : decode cX7_bit 2 = .ok (.ishr, 1) := by decide +kernel
theorem dX7_bit_3 : decode cX7_bit 3 = .ok (.iconst 1, 1) := by decide +kernel
theorem dX7_bit_4 : decode cX7_bit 4 = .ok (.iand, 1) := by decide +kernel
theorem dX7_bit_5 : decode cX7_bit 5 = .ok (.ireturn, 1) := by decide +kernel
theorem dX7_putBytes_0 : decode cX7_putBytes 0 = .ok (.bipush 24, 2) := by decide +kernel
theorem dX7_putBytes_2 : decode cX7_putBytes 2 = .ok (.istore_n 2, 1) := by decide +kernel
theorem dX7_putBytes_3 : decode cX7_putBytes 3 = .ok (.iload_n 2, 1) := by decide +kernel
theorem dX7_putBytes_4 : decode cX7_putBytes 4 = .ok (.ifCond .lt 42, 3) := by decide +kernel
theorem dX7_putBytes_7 : decode cX7_putBytes 7 = .ok (.aload_n 0, 1) := by decide +kernel
theorem dX7_putBytes_8 : decode cX7_putBytes 8 = .ok (.getfield 58, 3) := by decide +kernel
theorem dX7_putBytes_11 : decode cX7_putBytes 11 = .ok (.sipush 600, 3) := by decide +kernel
theorem dX7_putBytes_14 : decode cX7_putBytes 14 = .ok (.if_icmp .ge 32, 3) := by decide +kernel
theorem dX7_putBytes_17 : decode cX7_putBytes 17 = .ok (.aload_n 0, 1) := by decide +kernel
theorem dX7_putBytes_18 : decode cX7_putBytes 18 = .ok (.getfield 11, 3) := by decide +kernel
theorem dX7_putBytes_21 : decode cX7_putBytes 21 = .ok (.aload_n 0, 1) := by decide +kernel
theorem dX7_putBytes_22 : decode cX7_putBytes 22 = .ok (.getfield 58, 3) := by decide +kernel
theorem dX7_putBytes_25 : decode cX7_putBytes 25 = .ok (.iload_n 1, 1) := by decide +kernel
theorem dX7_putBytes_26 : decode cX7_putBytes 26 = .ok (.iload_n 2, 1) := by decide +kernel
theorem dX7_putBytes_27 : decode cX7_putBytes 27 = .ok (.ishr, 1) := by decide +kernel
theorem dX7_putBytes_28 : decode cX7_putBytes 28 = .ok (.i2b, 1) := by decide +kernel
theorem dX7_putBytes_29 : decode cX7_putBytes 29 = .ok (.bastore, 1) := by decide +kernel
theorem dX7_putBytes_30 : decode cX7_putBytes 30 = .ok (.aload_n 0, 1) := by decide +kernel
theorem dX7_putBytes_31 : decode cX7_putBytes 31 = .ok (.dup, 1) := by decide +kernel
theorem dX7_putBytes_32 : decode cX7_putBytes 32 = .ok (.getfield 58, 3) := by decide +kernel
theorem dX7_putBytes_35 : decode cX7_putBytes 35 = .ok (.iconst 1, 1) := by decide +kernel
theorem dX7_putBytes_36 : decode cX7_putBytes 36 = .ok (.iadd, 1) := by decide +kernel
theorem dX7_putBytes_37 : decode cX7_putBytes 37 = .ok (.putfield 58, 3) := by decide +kernel
theorem dX7_putBytes_40 : decode cX7_putBytes 40 = .ok (.iinc 2 (-8), 3) := by decide +kernel
theorem dX7_putBytes_43 : decode cX7_putBytes 43 = .ok (.goto (-40), 3) := by decide +kernel
theorem dX7_putBytes_46 : decode cX7_putBytes 46 = .ok (.return_, 1) := by decide +kernel
theorem dX7_settle_0 : decode cX7_settle 0 = .ok (.aload_n 0, 1) := by decide +kernel
theorem dX7_settle_1 : decode cX7_settle 1 = .ok (.getfield 29, 3) := by decide +kernel
theorem dX7_settle_4 : decode cX7_settle 4 = .ok (.invokevirtual 248, 3) := by decide +kernel
theorem dX7_settle_7 : decode cX7_settle 7 = .ok (.aload_n 0, 1) := by decide +kernel
theorem dX7_settle_8 : decode cX7_settle 8 = .ok (.getfield 54, 3) := by decide +kernel
theorem dX7_settle_11 : decode cX7_settle 11 = .ok (.iconst 0, 1) := by decide +kernel
theorem dX7_settle_12 : decode cX7_settle 12 = .ok (.putfield 284, 3) := by decide +kernel
theorem dX7_settle_15 : decode cX7_settle 15 = .ok (.return_, 1) := by decide +kernel
theorem dX7_solveWithMore_0 : decode cX7_solveWithMore 0 = .ok (.aload_n 0, 1) := by decide +kernel
theorem dX7_solveWithMore_1 : decode cX7_solveWithMore 1 = .ok (.getfield 41, 3) := by decide +kernel
theorem dX7_solveWithMore_4 : decode cX7_solveWithMore 4 = .ok (.aload_n 0, 1) := by decide +kernel
theorem dX7_solveWithMore_5 : decode cX7_solveWithMore 5 = .ok (.getfield 37, 3) := by decide +kernel
theorem dX7_solveWithMore_8 : decode cX7_solveWithMore 8 = .ok (.invokevirtual 83, 3) := by decide +kernel
theorem dX7_solveWithMore_11 : decode cX7_solveWithMore 11 = .ok (.aload_n 0, 1) := by decide +kernel
theorem dX7_solveWithMore_12 : decode cX7_solveWithMore 12 = .ok (.getfield 41, 3) := by decide +kernel
theorem dX7_solveWithMore_15 : decode cX7_solveWithMore 15 = .ok (.getfield 186, 3) := by decide +kernel
theorem dX7_solveWithMore_18 : decode cX7_solveWithMore 18 = .ok (.iload_n 1, 1) := by decide +kernel
theorem dX7_solveWithMore_19 : decode cX7_solveWithMore 19 = .ok (.dup2, 1) := by decide +kernel
theorem dX7_solveWithMore_20 : decode cX7_solveWithMore 20 = .ok (.iaload, 1) := by decide +kernel
theorem dX7_solveWithMore_21 : decode cX7_solveWithMore 21 = .ok (.iload_n 2, 1) := by decide +kernel
theorem dX7_solveWithMore_22 : decode cX7_solveWithMore 22 = .ok (.iadd, 1) := by decide +kernel
theorem dX7_solveWithMore_23 : decode cX7_solveWithMore 23 = .ok (.iastore, 1) := by decide +kernel
theorem dX7_solveWithMore_24 : decode cX7_solveWithMore 24 = .ok (.aload_n 0, 1) := by decide +kernel
theorem dX7_solveWithMore_25 : decode cX7_solveWithMore 25 = .ok (.getfield 38, 3) := by decide +kernel
theorem dX7_solveWithMore_28 : decode cX7_solveWithMore 28 = .ok (.invokevirtual 248, 3) := by decide +kernel
theorem dX7_solveWithMore_31 : decode cX7_solveWithMore 31 = .ok (.return_, 1) := by decide +kernel
theorem dX7_dryIfClosed_0 : decode cX7_dryIfClosed 0 = .ok (.aload_n 0, 1) := by decide +kernel
theorem dX7_dryIfClosed_1 : decode cX7_dryIfClosed 1 = .ok (.getfield 41, 3) := by decide +kernel
theorem dX7_dryIfClosed_4 : decode cX7_dryIfClosed 4 = .ok (.aload_n 0, 1) := by decide +kernel
theorem dX7_dryIfClosed_5 : decode cX7_dryIfClosed 5 = .ok (.getfield 37, 3) := by decide +kernel
theorem dX7_dryIfClosed_8 : decode cX7_dryIfClosed 8 = .ok (.invokevirtual 83, 3) := by decide +kernel
theorem dX7_dryIfClosed_11 : decode cX7_dryIfClosed 11 = .ok (.aload_n 0, 1) := by decide +kernel
theorem dX7_dryIfClosed_12 : decode cX7_dryIfClosed 12 = .ok (.getfield 41, 3) := by decide +kernel
theorem dX7_dryIfClosed_15 : decode cX7_dryIfClosed 15 = .ok (.dup, 1) := by decide +kernel
theorem dX7_dryIfClosed_16 : decode cX7_dryIfClosed 16 = .ok (.getfield 154, 3) := by decide +kernel
theorem dX7_dryIfClosed_19 : decode cX7_dryIfClosed 19 = .ok (.iload_n 1, 1) := by decide +kernel
theorem dX7_dryIfClosed_20 : decode cX7_dryIfClosed 20 = .ok (.ior, 1) := by decide +kernel
theorem dX7_dryIfClosed_21 : decode cX7_dryIfClosed 21 = .ok (.putfield 154, 3) := by decide +kernel
theorem dX7_dryIfClosed_24 : decode cX7_dryIfClosed 24 = .ok (.aload_n 0, 1) := by decide +kernel
theorem dX7_dryIfClosed_25 : decode cX7_dryIfClosed 25 = .ok (.getfield 38, 3) := by decide +kernel
theorem dX7_dryIfClosed_28 : decode cX7_dryIfClosed 28 = .ok (.invokevirtual 248, 3) := by decide +kernel
theorem dX7_dryIfClosed_31 : decode cX7_dryIfClosed 31 = .ok (.aload_n 0, 1) := by decide +kernel
theorem dX7_dryIfClosed_32 : decode cX7_dryIfClosed 32 = .ok (.getfield 38, 3) := by decide +kernel
theorem dX7_dryIfClosed_35 : decode cX7_dryIfClosed 35 = .ok (.invokevirtual 129, 3) := by decide +kernel
theorem dX7_dryIfClosed_38 : decode cX7_dryIfClosed 38 = .ok (.ireturn, 1) := by decide +kernel
theorem dX7_vitalEdges_0 : decode cX7_vitalEdges 0 = .ok (.aload_n 0, 1) := by decide +kernel
theorem dX7_vitalEdges_1 : decode cX7_vitalEdges 1 = .ok (.getfield 29, 3) := by decide +kernel
theorem dX7_vitalEdges_4 : decode cX7_vitalEdges 4 = .ok (.invokevirtual 129, 3) := by decide +kernel
theorem dX7_vitalEdges_7 : decode cX7_vitalEdges 7 = .ok (.istore_n 1, 1) := by decide +kernel
theorem dX7_vitalEdges_8 : decode cX7_vitalEdges 8 = .ok (.iconst 0, 1) := by decide +kernel
theorem dX7_vitalEdges_9 : decode cX7_vitalEdges 9 = .ok (.istore_n 2, 1) := by decide +kernel
theorem dX7_vitalEdges_10 : decode cX7_vitalEdges 10 = .ok (.iconst 0, 1) := by decide +kernel
theorem dX7_vitalEdges_11 : decode cX7_vitalEdges 11 = .ok (.istore_n 3, 1) := by decide +kernel
theorem dX7_vitalEdges_12 : decode cX7_vitalEdges 12 = .ok (.iload_n 3, 1) := by decide +kernel
theorem dX7_vitalEdges_13 : decode cX7_vitalEdges 13 = .ok (.aload_n 0, 1) := by decide +kernel
theorem dX7_vitalEdges_14 : decode cX7_vitalEdges 14 = .ok (.getfield 37, 3) := by decide +kernel
theorem dX7_vitalEdges_17 : decode cX7_vitalEdges 17 = .ok (.getfield 105, 3) := by decide +kernel
theorem dX7_vitalEdges_20 : decode cX7_vitalEdges 20 = .ok (.if_icmp .ge 43, 3) := by decide +kernel
theorem dX7_vitalEdges_23 : decode cX7_vitalEdges 23 = .ok (.aload_n 0, 1) := by decide +kernel
theorem dX7_vitalEdges_24 : decode cX7_vitalEdges 24 = .ok (.getfield 37, 3) := by decide +kernel
theorem dX7_vitalEdges_27 : decode cX7_vitalEdges 27 = .ok (.getfield 154, 3) := by decide +kernel
theorem dX7_vitalEdges_30 : decode cX7_vitalEdges 30 = .ok (.iload_n 3, 1) := by decide +kernel
theorem dX7_vitalEdges_31 : decode cX7_vitalEdges 31 = .ok (.invokestatic 157, 3) := by decide +kernel
theorem dX7_vitalEdges_34 : decode cX7_vitalEdges 34 = .ok (.ifCond .ne 23, 3) := by decide +kernel
theorem dX7_vitalEdges_37 : decode cX7_vitalEdges 37 = .ok (.aload_n 0, 1) := by decide +kernel
theorem dX7_vitalEdges_38 : decode cX7_vitalEdges 38 = .ok (.iconst 1, 1) := by decide +kernel
theorem dX7_vitalEdges_39 : decode cX7_vitalEdges 39 = .ok (.iload_n 3, 1) := by decide +kernel
theorem dX7_vitalEdges_40 : decode cX7_vitalEdges 40 = .ok (.ishl, 1) := by decide +kernel
theorem dX7_vitalEdges_41 : decode cX7_vitalEdges 41 = .ok (.invokevirtual 262, 3) := by decide +kernel
theorem dX7_vitalEdges_44 : decode cX7_vitalEdges 44 = .ok (.iload_n 1, 1) := by decide +kernel
theorem dX7_vitalEdges_45 : decode cX7_vitalEdges 45 = .ok (.iconst (-1), 1) := by decide +kernel
theorem dX7_vitalEdges_46 : decode cX7_vitalEdges 46 = .ok (.ixor, 1) := by decide +kernel
theorem dX7_vitalEdges_47 : decode cX7_vitalEdges 47 = .ok (.iand, 1) := by decide +kernel
theorem dX7_vitalEdges_48 : decode cX7_vitalEdges 48 = .ok (.ifCond .eq 9, 3) := by decide +kernel
theorem dX7_vitalEdges_51 : decode cX7_vitalEdges 51 = .ok (.iload_n 2, 1) := by decide +kernel
theorem dX7_vitalEdges_52 : decode cX7_vitalEdges 52 = .ok (.iconst 1, 1) := by decide +kernel
theorem dX7_vitalEdges_53 : decode cX7_vitalEdges 53 = .ok (.iload_n 3, 1) := by decide +kernel
theorem dX7_vitalEdges_54 : decode cX7_vitalEdges 54 = .ok (.ishl, 1) := by decide +kernel
theorem dX7_vitalEdges_55 : decode cX7_vitalEdges 55 = .ok (.ior, 1) := by decide +kernel
theorem dX7_vitalEdges_56 : decode cX7_vitalEdges 56 = .ok (.istore_n 2, 1) := by decide +kernel
theorem dX7_vitalEdges_57 : decode cX7_vitalEdges 57 = .ok (.iinc 3 1, 3) := by decide +kernel
theorem dX7_vitalEdges_60 : decode cX7_vitalEdges 60 = .ok (.goto (-48), 3) := by decide +kernel
theorem dX7_vitalEdges_63 : decode cX7_vitalEdges 63 = .ok (.iload_n 2, 1) := by decide +kernel
theorem dX7_vitalEdges_64 : decode cX7_vitalEdges 64 = .ok (.ireturn, 1) := by decide +kernel
theorem dX7_bestToWiden_0 : decode cX7_bestToWiden 0 = .ok (.bipush (-2), 2) := by decide +kernel
theorem dX7_bestToWiden_2 : decode cX7_bestToWiden 2 = .ok (.istore_n 1, 1) := by decide +kernel
