theorem dX8_laysNet_29 : decode cX8_laysNet 29 = .ok (.invokevirtual 354, 3) := by decide +kernel
theorem dX8_laysNet_32 : decode cX8_laysNet 32 = .ok (.ifCond .ne 8, 3) := by decide +kernel
theorem dX8_laysNet_35 : decode cX8_laysNet 35 = .ok (.aload_n 0, 1) := by decide +kernel
theorem dX8_laysNet_36 : decode cX8_laysNet 36 = .ok (.iload_n 1, 1) := by decide +kernel
theorem dX8_laysNet_37 : decode cX8_laysNet 37 = .ok (.invokevirtual 357, 3) := by decide +kernel
theorem dX8_laysNet_40 : decode cX8_laysNet 40 = .ok (.iinc 1 1, 3) := by decide +kernel
theorem dX8_laysNet_43 : decode cX8_laysNet 43 = .ok (.goto (-32), 3) := by decide +kernel
theorem dX8_laysNet_46 : decode cX8_laysNet 46 = .ok (.aload_n 0, 1) := by decide +kernel
theorem dX8_laysNet_47 : decode cX8_laysNet 47 = .ok (.invokevirtual 360, 3) := by decide +kernel
theorem dX8_laysNet_50 : decode cX8_laysNet 50 = .ok (.return_, 1) := by decide +kernel
theorem dX8_laysHeads_0 : decode cX8_laysHeads 0 = .ok (.aload_n 0, 1) := by decide +kernel
theorem dX8_laysHeads_1 : decode cX8_laysHeads 1 = .ok (.getfield 65, 3) := by decide +kernel
theorem dX8_laysHeads_4 : decode cX8_laysHeads 4 = .ok (.iconst 0, 1) := by decide +kernel
theorem dX8_laysHeads_5 : decode cX8_laysHeads 5 = .ok (.ldc2_w 306, 3) := by decide +kernel
theorem dX8_laysHeads_8 : decode cX8_laysHeads 8 = .ok (.aload_n 0, 1) := by decide +kernel
theorem dX8_laysHeads_9 : decode cX8_laysHeads 9 = .ok (.getfield 19, 3) := by decide +kernel
theorem dX8_laysHeads_12 : decode cX8_laysHeads 12 = .ok (.iconst 0, 1) := by decide +kernel
theorem dX8_laysHeads_13 : decode cX8_laysHeads 13 = .ok (.iaload, 1) := by decide +kernel
theorem dX8_laysHeads_14 : decode cX8_laysHeads 14 = .ok (.i2l, 1) := by decide +kernel
theorem dX8_laysHeads_15 : decode cX8_laysHeads 15 = .ok (.lmul, 1) := by decide +kernel
theorem dX8_laysHeads_16 : decode cX8_laysHeads 16 = .ok (.lastore, 1) := by decide +kernel
theorem dX8_laysHeads_17 : decode cX8_laysHeads 17 = .ok (.iconst 1, 1) := by decide +kernel
theorem dX8_laysHeads_18 : decode cX8_laysHeads 18 = .ok (.istore_n 1, 1) := by decide +kernel
theorem dX8_laysHeads_19 : decode cX8_laysHeads 19 = .ok (.iload_n 1, 1) := by decide +kernel
theorem dX8_laysHeads_20 : decode cX8_laysHeads 20 = .ok (.aload_n 0, 1) := by decide +kernel
theorem dX8_laysHeads_21 : decode cX8_laysHeads 21 = .ok (.getfield 278, 3) := by decide +kernel
theorem dX8_laysHeads_24 : decode cX8_laysHeads 24 = .ok (.if_icmp .ge 71, 3) := by decide +kernel
theorem dX8_laysHeads_27 : decode cX8_laysHeads 27 = .ok (.aload_n 0, 1) := by decide +kernel
theorem dX8_laysHeads_28 : decode cX8_laysHeads 28 = .ok (.getfield 49, 3) := by decide +kernel
theorem dX8_laysHeads_31 : decode cX8_laysHeads 31 = .ok (.iload_n 1, 1) := by decide +kernel
theorem dX8_laysHeads_32 : decode cX8_laysHeads 32 = .ok (.iaload, 1) := by decide +kernel
theorem dX8_laysHeads_33 : decode cX8_laysHeads 33 = .ok (.istore_n 2, 1) := by decide +kernel
theorem dX8_laysHeads_34 : decode cX8_laysHeads 34 = .ok (.aload_n 0, 1) := by decide +kernel
theorem dX8_laysHeads_35 : decode cX8_laysHeads 35 = .ok (.getfield 46, 3) := by decide +kernel
theorem dX8_laysHeads_38 : decode cX8_laysHeads 38 = .ok (.iload_n 2, 1) := by decide +kernel
theorem dX8_laysHeads_39 : decode cX8_laysHeads 39 = .ok (.iaload, 1) := by decide +kernel
theorem dX8_laysHeads_40 : decode cX8_laysHeads 40 = .ok (.istore_n 3, 1) := by decide +kernel
theorem dX8_laysHeads_41 : decode cX8_laysHeads 41 = .ok (.aload_n 0, 1) := by decide +kernel
theorem dX8_laysHeads_42 : decode cX8_laysHeads 42 = .ok (.iload_n 3, 1) := by decide +kernel
theorem dX8_laysHeads_43 : decode cX8_laysHeads 43 = .ok (.aload_n 0, 1) := by decide +kernel
theorem dX8_laysHeads_44 : decode cX8_laysHeads 44 = .ok (.getfield 52, 3) := by decide +kernel
theorem dX8_laysHeads_47 : decode cX8_laysHeads 47 = .ok (.iload_n 3, 1) := by decide +kernel
theorem dX8_laysHeads_48 : decode cX8_laysHeads 48 = .ok (.laload, 1) := by decide +kernel
theorem dX8_laysHeads_49 : decode cX8_laysHeads 49 = .ok (.invokevirtual 324, 3) := by decide +kernel
theorem dX8_laysHeads_52 : decode cX8_laysHeads 52 = .ok (.lstore 4, 2) := by decide +kernel
theorem dX8_laysHeads_54 : decode cX8_laysHeads 54 = .ok (.aload_n 0, 1) := by decide +kernel
theorem dX8_laysHeads_55 : decode cX8_laysHeads 55 = .ok (.getfield 65, 3) := by decide +kernel
theorem dX8_laysHeads_58 : decode cX8_laysHeads 58 = .ok (.iload_n 2, 1) := by decide +kernel
theorem dX8_laysHeads_59 : decode cX8_laysHeads 59 = .ok (.aload_n 0, 1) := by decide +kernel
theorem dX8_laysHeads_60 : decode cX8_laysHeads 60 = .ok (.getfield 65, 3) := by decide +kernel
theorem dX8_laysHeads_63 : decode cX8_laysHeads 63 = .ok (.aload_n 0, 1) := by decide +kernel
theorem dX8_laysHeads_64 : decode cX8_laysHeads 64 = .ok (.iload_n 2, 1) := by decide +kernel
theorem dX8_laysHeads_65 : decode cX8_laysHeads 65 = .ok (.invokevirtual 285, 3) := by decide +kernel
theorem dX8_laysHeads_68 : decode cX8_laysHeads 68 = .ok (.laload, 1) := by decide +kernel
theorem dX8_laysHeads_69 : decode cX8_laysHeads 69 = .ok (.aload_n 0, 1) := by decide +kernel
theorem dX8_laysHeads_70 : decode cX8_laysHeads 70 = .ok (.getfield 31, 3) := by decide +kernel
theorem dX8_laysHeads_73 : decode cX8_laysHeads 73 = .ok (.iload_n 3, 1) := by decide +kernel
theorem dX8_laysHeads_74 : decode cX8_laysHeads 74 = .ok (.iaload, 1) := by decide +kernel
theorem dX8_laysHeads_75 : decode cX8_laysHeads 75 = .ok (.iload_n 2, 1) := by decide +kernel
theorem dX8_laysHeads_76 : decode cX8_laysHeads 76 = .ok (.if_icmp .ne 8, 3) := by decide +kernel
theorem dX8_laysHeads_79 : decode cX8_laysHeads 79 = .ok (.lload 4, 2) := by decide +kernel
theorem dX8_laysHeads_81 : decode cX8_laysHeads 81 = .ok (.goto 6, 3) := by decide +kernel
theorem dX8_laysHeads_84 : decode cX8_laysHeads 84 = .ok (.lload 4, 2) := by decide +kernel
theorem dX8_laysHeads_86 : decode cX8_laysHeads 86 = .ok (.lneg, 1) := by decide +kernel
theorem dX8_laysHeads_87 : decode cX8_laysHeads 87 = .ok (.lsub, 1) := by decide +kernel
theorem dX8_laysHeads_88 : decode cX8_laysHeads 88 = .ok (.lastore, 1) := by decide +kernel
theorem dX8_laysHeads_89 : decode cX8_laysHeads 89 = .ok (.iinc 1 1, 3) := by decide +kernel
theorem dX8_laysHeads_92 : decode cX8_laysHeads 92 = .ok (.goto (-73), 3) := by decide +kernel
theorem dX8_laysHeads_95 : decode cX8_laysHeads 95 = .ok (.return_, 1) := by decide +kernel
theorem dX8_wrongWay_0 : decode cX8_wrongWay 0 = .ok (.iconst 0, 1) := by decide +kernel
theorem dX8_wrongWay_1 : decode cX8_wrongWay 1 = .ok (.istore_n 1, 1) := by decide +kernel
theorem dX8_wrongWay_2 : decode cX8_wrongWay 2 = .ok (.iload_n 1, 1) := by decide +kernel
theorem dX8_wrongWay_3 : decode cX8_wrongWay 3 = .ok (.aload_n 0, 1) := by decide +kernel
theorem dX8_wrongWay_4 : decode cX8_wrongWay 4 = .ok (.getfield 232, 3) := by decide +kernel
theorem dX8_wrongWay_7 : decode cX8_wrongWay 7 = .ok (.if_icmp .ge 39, 3) := by decide +kernel
theorem dX8_wrongWay_10 : decode cX8_wrongWay 10 = .ok (.aload_n 0, 1) := by decide +kernel
theorem dX8_wrongWay_11 : decode cX8_wrongWay 11 = .ok (.getfield 34, 3) := by decide +kernel
theorem dX8_wrongWay_14 : decode cX8_wrongWay 14 = .ok (.iload_n 1, 1) := by decide +kernel
theorem dX8_wrongWay_15 : decode cX8_wrongWay 15 = .ok (.iaload, 1) := by decide +kernel
theorem dX8_wrongWay_16 : decode cX8_wrongWay 16 = .ok (.ifCond .eq 24, 3) := by decide +kernel
theorem dX8_wrongWay_19 : decode cX8_wrongWay 19 = .ok (.aload_n 0, 1) := by decide +kernel
theorem dX8_wrongWay_20 : decode cX8_wrongWay 20 = .ok (.iload_n 1, 1) := by decide +kernel
theorem dX8_wrongWay_21 : decode cX8_wrongWay 21 = .ok (.invokevirtual 275, 3) := by decide +kernel
theorem dX8_wrongWay_24 : decode cX8_wrongWay 24 = .ok (.ifCond .eq 16, 3) := by decide +kernel
theorem dX8_wrongWay_27 : decode cX8_wrongWay 27 = .ok (.aload_n 0, 1) := by decide +kernel
theorem dX8_wrongWay_28 : decode cX8_wrongWay 28 = .ok (.getfield 52, 3) := by decide +kernel
theorem dX8_wrongWay_31 : decode cX8_wrongWay 31 = .ok (.iload_n 1, 1) := by decide +kernel
theorem dX8_wrongWay_32 : decode cX8_wrongWay 32 = .ok (.laload, 1) := by decide +kernel
theorem dX8_wrongWay_33 : decode cX8_wrongWay 33 = .ok (.lconst 0, 1) := by decide +kernel
theorem dX8_wrongWay_34 : decode cX8_wrongWay 34 = .ok (.lcmp, 1) := by decide +kernel
theorem dX8_wrongWay_35 : decode cX8_wrongWay 35 = .ok (.ifCond .ge 5, 3) := by decide +kernel
theorem dX8_wrongWay_38 : decode cX8_wrongWay 38 = .ok (.iload_n 1, 1) := by decide +kernel
theorem dX8_wrongWay_39 : decode cX8_wrongWay 39 = .ok (.ireturn, 1) := by decide +kernel
theorem dX8_wrongWay_40 : decode cX8_wrongWay 40 = .ok (.iinc 1 1, 3) := by decide +kernel
theorem dX8_wrongWay_43 : decode cX8_wrongWay 43 = .ok (.goto (-41), 3) := by decide +kernel
theorem dX8_wrongWay_46 : decode cX8_wrongWay 46 = .ok (.iconst (-1), 1) := by decide +kernel
theorem dX8_wrongWay_47 : decode cX8_wrongWay 47 = .ok (.ireturn, 1) := by decide +kernel
theorem dX8_rightWay_0 : decode cX8_rightWay 0 = .ok (.iconst 0, 1) := by decide +kernel
theorem dX8_rightWay_1 : decode cX8_rightWay 1 = .ok (.istore_n 1, 1) := by decide +kernel
theorem dX8_rightWay_2 : decode cX8_rightWay 2 = .ok (.iload_n 1, 1) := by decide +kernel
theorem dX8_rightWay_3 : decode cX8_rightWay 3 = .ok (.aload_n 0, 1) := by decide +kernel
theorem dX8_rightWay_4 : decode cX8_rightWay 4 = .ok (.getfield 232, 3) := by decide +kernel
theorem dX8_rightWay_7 : decode cX8_rightWay 7 = .ok (.if_icmp .ge 98, 3) := by decide +kernel
theorem dX8_rightWay_10 : decode cX8_rightWay 10 = .ok (.aload_n 0, 1) := by decide +kernel
theorem dX8_rightWay_11 : decode cX8_rightWay 11 = .ok (.getfield 263, 3) := by decide +kernel
theorem dX8_rightWay_14 : decode cX8_rightWay 14 = .ok (.iload_n 1, 1) := by decide +kernel
theorem dX8_rightWay_15 : decode cX8_rightWay 15 = .ok (.ishr, 1) := by decide +kernel
theorem dX8_rightWay_16 : decode cX8_rightWay 16 = .ok (.iconst 1, 1) := by decide +kernel
theorem dX8_rightWay_17 : decode cX8_rightWay 17 = .ok (.iand, 1) := by decide +kernel
theorem dX8_rightWay_18 : decode cX8_rightWay 18 = .ok (.iconst 1, 1) := by decide +kernel
theorem dX8_rightWay_19 : decode cX8_rightWay 19 = .ok (.if_icmp .ne 80, 3) := by decide +kernel
theorem dX8_rightWay_22 : decode cX8_rightWay 22 = .ok (.aload_n 0, 1) := by decide +kernel
theorem dX8_rightWay_23 : decode cX8_rightWay 23 = .ok (.aload_n 0, 1) := by decide +kernel
theorem dX8_rightWay_24 : decode cX8_rightWay 24 = .ok (.getfield 28, 3) := by decide +kernel
theorem dX8_rightWay_27 : decode cX8_rightWay 27 = .ok (.iload_n 1, 1) := by decide +kernel
theorem dX8_rightWay_28 : decode cX8_rightWay 28 = .ok (.iaload, 1) := by decide +kernel
theorem dX8_rightWay_29 : decode cX8_rightWay 29 = .ok (.invokevirtual 272, 3) := by decide +kernel
theorem dX8_rightWay_32 : decode cX8_rightWay 32 = .ok (.ifCond .eq 67, 3) := by decide +kernel
theorem dX8_rightWay_35 : decode cX8_rightWay 35 = .ok (.aload_n 0, 1) := by decide +kernel
theorem dX8_rightWay_36 : decode cX8_rightWay 36 = .ok (.getfield 65, 3) := by decide +kernel
theorem dX8_rightWay_39 : decode cX8_rightWay 39 = .ok (.aload_n 0, 1) := by decide +kernel
theorem dX8_rightWay_40 : decode cX8_rightWay 40 = .ok (.getfield 28, 3) := by decide +kernel
theorem dX8_rightWay_43 : decode cX8_rightWay 43 = .ok (.iload_n 1, 1) := by decide +kernel
theorem dX8_rightWay_44 : decode cX8_rightWay 44 = .ok (.iaload, 1) := by decide +kernel
theorem dX8_rightWay_45 : decode cX8_rightWay 45 = .ok (.laload, 1) := by decide +kernel
theorem dX8_rightWay_46 : decode cX8_rightWay 46 = .ok (.aload_n 0, 1) := by decide +kernel
theorem dX8_rightWay_47 : decode cX8_rightWay 47 = .ok (.getfield 34, 3) := by decide +kernel
theorem dX8_rightWay_50 : decode cX8_rightWay 50 = .ok (.iload_n 1, 1) := by decide +kernel
theorem dX8_rightWay_51 : decode cX8_rightWay 51 = .ok (.iaload, 1) := by decide +kernel
theorem dX8_rightWay_52 : decode cX8_rightWay 52 = .ok (.iconst 2, 1) := by decide +kernel
theorem dX8_rightWay_53 : decode cX8_rightWay 53 = .ok (.if_icmp .ne 12, 3) := by decide +kernel
theorem dX8_rightWay_56 : decode cX8_rightWay 56 = .ok (.aload_n 0, 1) := by decide +kernel
theorem dX8_rightWay_57 : decode cX8_rightWay 57 = .ok (.iload_n 1, 1) := by decide +kernel
theorem dX8_rightWay_58 : decode cX8_rightWay 58 = .ok (.lconst 0, 1) := by decide +kernel
theorem dX8_rightWay_59 : decode cX8_rightWay 59 = .ok (.invokevirtual 308, 3) := by decide +kernel
theorem dX8_rightWay_62 : decode cX8_rightWay 62 = .ok (.goto 4, 3) := by decide +kernel
theorem dX8_rightWay_65 : decode cX8_rightWay 65 = .ok (.lconst 0, 1) := by decide +kernel
theorem dX8_rightWay_66 : decode cX8_rightWay 66 = .ok (.ladd, 1) := by decide +kernel
theorem dX8_rightWay_67 : decode cX8_rightWay 67 = .ok (.lstore_n 2, 1) := by decide +kernel
theorem dX8_rightWay_68 : decode cX8_rightWay 68 = .ok (.aload_n 0, 1) := by decide +kernel
theorem dX8_rightWay_69 : decode cX8_rightWay 69 = .ok (.aload_n 0, 1) := by decide +kernel
theorem dX8_rightWay_70 : decode cX8_rightWay 70 = .ok (.getfield 31, 3) := by decide +kernel
theorem dX8_rightWay_73 : decode cX8_rightWay 73 = .ok (.iload_n 1, 1) := by decide +kernel
theorem dX8_rightWay_74 : decode cX8_rightWay 74 = .ok (.iaload, 1) := by decide +kernel
theorem dX8_rightWay_75 : decode cX8_rightWay 75 = .ok (.invokevirtual 272, 3) := by decide +kernel
theorem dX8_rightWay_78 : decode cX8_rightWay 78 = .ok (.ifCond .eq 19, 3) := by decide +kernel
theorem dX8_rightWay_81 : decode cX8_rightWay 81 = .ok (.aload_n 0, 1) := by decide +kernel
theorem dX8_rightWay_82 : decode cX8_rightWay 82 = .ok (.getfield 65, 3) := by decide +kernel
theorem dX8_rightWay_85 : decode cX8_rightWay 85 = .ok (.aload_n 0, 1) := by decide +kernel
theorem dX8_rightWay_86 : decode cX8_rightWay 86 = .ok (.getfield 31, 3) := by decide +kernel
theorem dX8_rightWay_89 : decode cX8_rightWay 89 = .ok (.iload_n 1, 1) := by decide +kernel
theorem dX8_rightWay_90 : decode cX8_rightWay 90 = .ok (.iaload, 1) := by decide +kernel
theorem dX8_rightWay_91 : decode cX8_rightWay 91 = .ok (.laload, 1) := by decide +kernel
theorem dX8_rightWay_92 : decode cX8_rightWay 92 = .ok (.lload_n 2, 1) := by decide +kernel
theorem dX8_rightWay_93 : decode cX8_rightWay 93 = .ok (.lcmp, 1) := by decide +kernel
theorem dX8_rightWay_94 : decode cX8_rightWay 94 = .ok (.ifCond .ge 5, 3) := by decide +kernel
theorem dX8_rightWay_97 : decode cX8_rightWay 97 = .ok (.iload_n 1, 1) := by decide +kernel
theorem dX8_rightWay_98 : decode cX8_rightWay 98 = .ok (.ireturn, 1) := by decide +kernel
theorem dX8_rightWay_99 : decode cX8_rightWay 99 = .ok (.iinc 1 1, 3) := by decide +kernel
theorem dX8_rightWay_102 : decode cX8_rightWay 102 = .ok (.goto (-100), 3) := by decide +kernel
theorem dX8_rightWay_105 : decode cX8_rightWay 105 = .ok (.iconst (-1), 1) := by decide +kernel
theorem dX8_rightWay_106 : decode cX8_rightWay 106 = .ok (.ireturn, 1) := by decide +kernel
theorem dX8_solves_0 : decode cX8_solves 0 = .ok (.aload_n 0, 1) := by decide +kernel
theorem dX8_solves_1 : decode cX8_solves 1 = .ok (.iconst 0, 1) := by decide +kernel
theorem dX8_solves_2 : decode cX8_solves 2 = .ok (.putfield 263, 3) := by decide +kernel
theorem dX8_solves_5 : decode cX8_solves 5 = .ok (.aload_n 0, 1) := by decide +kernel
theorem dX8_solves_6 : decode cX8_solves 6 = .ok (.iconst 0, 1) := by decide +kernel
theorem dX8_solves_7 : decode cX8_solves 7 = .ok (.putfield 363, 3) := by decide +kernel
theorem dX8_solves_10 : decode cX8_solves 10 = .ok (.aload_n 0, 1) := by decide +kernel
theorem dX8_solves_11 : decode cX8_solves 11 = .ok (.iconst 0, 1) := by decide +kernel
theorem dX8_solves_12 : decode cX8_solves 12 = .ok (.putfield 366, 3) := by decide +kernel
theorem dX8_solves_15 : decode cX8_solves 15 = .ok (.iconst 1, 1) := by decide +kernel
theorem dX8_solves_16 : decode cX8_solves 16 = .ok (.istore_n 1, 1) := by decide +kernel
theorem dX8_solves_17 : decode cX8_solves 17 = .ok (.iload_n 1, 1) := by decide +kernel
theorem dX8_solves_18 : decode cX8_solves 18 = .ok (.ifCond .eq 154, 3) := by decide +kernel
theorem dX8_solves_21 : decode cX8_solves 21 = .ok (.aload_n 0, 1) := by decide +kernel
theorem dX8_solves_22 : decode cX8_solves 22 = .ok (.dup, 1) := by decide +kernel
theorem dX8_solves_23 : decode cX8_solves 23 = .ok (.getfield 363, 3) := by decide +kernel
theorem dX8_solves_26 : decode cX8_solves 26 = .ok (.iconst 1, 1) := by decide +kernel
theorem dX8_solves_27 : decode cX8_solves 27 = .ok (.iadd, 1) := by decide +kernel
theorem dX8_solves_28 : decode cX8_solves 28 = .ok (.putfield 363, 3) := by decide +kernel
theorem dX8_solves_31 : decode cX8_solves 31 = .ok (.aload_n 0, 1) := by decide +kernel
theorem dX8_solves_32 : decode cX8_solves 32 = .ok (.invokevirtual 370, 3) := by decide +kernel
theorem dX8_solves_35 : decode cX8_solves 35 = .ok (.aload_n 0, 1) := by decide +kernel
theorem dX8_solves_36 : decode cX8_solves 36 = .ok (.iconst 0, 1) := by decide +kernel
theorem dX8_solves_37 : decode cX8_solves 37 = .ok (.putfield 373, 3) := by decide +kernel
theorem dX8_solves_40 : decode cX8_solves 40 = .ok (.iconst 1, 1) := by decide +kernel
theorem dX8_solves_41 : decode cX8_solves 41 = .ok (.istore_n 2, 1) := by decide +kernel
theorem dX8_solves_42 : decode cX8_solves 42 = .ok (.iload_n 2, 1) := by decide +kernel
theorem dX8_solves_43 : decode cX8_solves 43 = .ok (.ifCond .eq 30, 3) := by decide +kernel
theorem dX8_solves_46 : decode cX8_solves 46 = .ok (.aload_n 0, 1) := by decide +kernel
theorem dX8_solves_47 : decode cX8_solves 47 = .ok (.getfield 373, 3) := by decide +kernel
theorem dX8_solves_50 : decode cX8_solves 50 = .ok (.bipush 60, 2) := by decide +kernel
theorem dX8_solves_52 : decode cX8_solves 52 = .ok (.if_icmp .ge 21, 3) := by decide +kernel
theorem dX8_solves_55 : decode cX8_solves 55 = .ok (.aload_n 0, 1) := by decide +kernel
theorem dX8_solves_56 : decode cX8_solves 56 = .ok (.invokevirtual 376, 3) := by decide +kernel
theorem dX8_solves_59 : decode cX8_solves 59 = .ok (.istore_n 2, 1) := by decide +kernel
theorem dX8_solves_60 : decode cX8_solves 60 = .ok (.aload_n 0, 1) := by decide +kernel
theorem dX8_solves_61 : decode cX8_solves 61 = .ok (.dup, 1) := by decide +kernel
theorem dX8_solves_62 : decode cX8_solves 62 = .ok (.getfield 373, 3) := by decide +kernel
theorem dX8_solves_65 : decode cX8_solves 65 = .ok (.iconst 1, 1) := by decide +kernel
theorem dX8_solves_66 : decode cX8_solves 66 = .ok (.iadd, 1) := by decide +kernel
theorem dX8_solves_67 : decode cX8_solves 67 = .ok (.putfield 373, 3) := by decide +kernel
theorem dX8_solves_70 : decode cX8_solves 70 = .ok (.goto (-28), 3) := by decide +kernel
theorem dX8_solves_73 : decode cX8_solves 73 = .ok (.aload_n 0, 1) := by decide +kernel
theorem dX8_solves_74 : decode cX8_solves 74 = .ok (.invokevirtual 379, 3) := by decide +kernel
theorem dX8_solves_77 : decode cX8_solves 77 = .ok (.aload_n 0, 1) := by decide +kernel
theorem dX8_solves_78 : decode cX8_solves 78 = .ok (.invokevirtual 382, 3) := by decide +kernel
theorem dX8_solves_81 : decode cX8_solves 81 = .ok (.istore_n 3, 1) := by decide +kernel
theorem dX8_solves_82 : decode cX8_solves 82 = .ok (.iload_n 3, 1) := by decide +kernel
theorem dX8_solves_83 : decode cX8_solves 83 = .ok (.iconst (-1), 1) := by decide +kernel
theorem dX8_solves_84 : decode cX8_solves 84 = .ok (.if_icmp .ne 10, 3) := by decide +kernel
theorem dX8_solves_87 : decode cX8_solves 87 = .ok (.aload_n 0, 1) := by decide +kernel
theorem dX8_solves_88 : decode cX8_solves 88 = .ok (.invokevirtual 385, 3) := by decide +kernel
theorem dX8_solves_91 : decode cX8_solves 91 = .ok (.goto 4, 3) := by decide +kernel
theorem dX8_solves_94 : decode cX8_solves 94 = .ok (.iconst (-1), 1) := by decide +kernel
theorem dX8_solves_95 : decode cX8_solves 95 = .ok (.istore 4, 2) := by decide +kernel
theorem dX8_solves_97 : decode cX8_solves 97 = .ok (.aload_n 0, 1) := by decide +kernel
theorem dX8_solves_98 : decode cX8_solves 98 = .ok (.iload_n 3, 1) := by decide +kernel
theorem dX8_solves_99 : decode cX8_solves 99 = .ok (.iconst (-1), 1) := by decide +kernel
theorem dX8_solves_100 : decode cX8_solves 100 = .ok (.if_icmp .ne 13, 3) := by decide +kernel
theorem dX8_solves_103 : decode cX8_solves 103 = .ok (.iload 4, 2) := by decide +kernel
theorem dX8_solves_105 : decode cX8_solves 105 = .ok (.iconst (-1), 1) := by decide +kernel
theorem dX8_solves_106 : decode cX8_solves 106 = .ok (.if_icmp .ne 7, 3) := by decide +kernel
theorem dX8_solves_109 : decode cX8_solves 109 = .ok (.iconst 1, 1) := by decide +kernel
theorem dX8_solves_110 : decode cX8_solves 110 = .ok (.goto 4, 3) := by decide +kernel
theorem dX8_solves_113 : decode cX8_solves 113 = .ok (.iconst 0, 1) := by decide +kernel
theorem dX8_solves_114 : decode cX8_solves 114 = .ok (.putfield 366, 3) := by decide +kernel
theorem dX8_solves_117 : decode cX8_solves 117 = .ok (.aload_n 0, 1) := by decide +kernel
theorem dX8_solves_118 : decode cX8_solves 118 = .ok (.getfield 366, 3) := by decide +kernel
theorem dX8_solves_121 : decode cX8_solves 121 = .ok (.ifCond .ne 16, 3) := by decide +kernel
theorem dX8_solves_124 : decode cX8_solves 124 = .ok (.aload_n 0, 1) := by decide +kernel
theorem dX8_solves_125 : decode cX8_solves 125 = .ok (.getfield 363, 3) := by decide +kernel
theorem dX8_solves_128 : decode cX8_solves 128 = .ok (.bipush 20, 2) := by decide +kernel
theorem dX8_solves_130 : decode cX8_solves 130 = .ok (.if_icmp .ge 7, 3) := by decide +kernel
theorem dX8_solves_133 : decode cX8_solves 133 = .ok (.iconst 1, 1) := by decide +kernel
theorem dX8_solves_134 : decode cX8_solves 134 = .ok (.goto 4, 3) := by decide +kernel
theorem dX8_solves_137 : decode cX8_solves 137 = .ok (.iconst 0, 1) := by decide +kernel
theorem dX8_solves_138 : decode cX8_solves 138 = .ok (.istore_n 1, 1) := by decide +kernel
theorem dX8_solves_139 : decode cX8_solves 139 = .ok (.aload_n 0, 1) := by decide +kernel
theorem dX8_solves_140 : decode cX8_solves 140 = .ok (.dup, 1) := by decide +kernel
theorem dX8_solves_141 : decode cX8_solves 141 = .ok (.getfield 263, 3) := by decide +kernel
theorem dX8_solves_144 : decode cX8_solves 144 = .ok (.iload_n 1, 1) := by decide +kernel
theorem dX8_solves_145 : decode cX8_solves 145 = .ok (.ifCond .eq 19, 3) := by decide +kernel
theorem dX8_solves_148 : decode cX8_solves 148 = .ok (.iconst 1, 1) := by decide +kernel
theorem dX8_solves_149 : decode cX8_solves 149 = .ok (.iload_n 3, 1) := by decide +kernel
theorem dX8_solves_150 : decode cX8_solves 150 = .ok (.iconst (-1), 1) := by decide +kernel
theorem dX8_solves_151 : decode cX8_solves 151 = .ok (.if_icmp .eq 7, 3) := by decide +kernel
theorem dX8_solves_154 : decode cX8_solves 154 = .ok (.iload_n 3, 1) := by decide +kernel
theorem dX8_solves_155 : decode cX8_solves 155 = .ok (.goto 5, 3) := by decide +kernel
theorem dX8_solves_158 : decode cX8_solves 158 = .ok (.iload 4, 2) := by decide +kernel
theorem dX8_solves_160 : decode cX8_solves 160 = .ok (.ishl, 1) := by decide +kernel
theorem dX8_solves_161 : decode cX8_solves 161 = .ok (.goto 4, 3) := by decide +kernel
theorem dX8_solves_164 : decode cX8_solves 164 = .ok (.iconst 0, 1) := by decide +kernel
theorem dX8_solves_165 : decode cX8_solves 165 = .ok (.ixor, 1) := by decide +kernel
theorem dX8_solves_166 : decode cX8_solves 166 = .ok (.putfield 263, 3) := by decide +kernel
theorem dX8_solves_169 : decode cX8_solves 169 = .ok (.goto (-152), 3) := by decide +kernel
theorem dX8_solves_172 : decode cX8_solves 172 = .ok (.return_, 1) := by decide +kernel
theorem dX8_isEdge_0 : decode cX8_isEdge 0 = .ok (.iload_n 1, 1) := by decide +kernel
theorem dX8_isEdge_1 : decode cX8_isEdge 1 = .ok (.i2l, 1) := by decide +kernel
theorem dX8_isEdge_2 : decode cX8_isEdge 2 = .ok (.lconst 0, 1) := by decide +kernel
theorem dX8_isEdge_3 : decode cX8_isEdge 3 = .ok (.aload_n 0, 1) := by decide +kernel
theorem dX8_isEdge_4 : decode cX8_isEdge 4 = .ok (.getfield 232, 3) := by decide +kernel
theorem dX8_isEdge_7 : decode cX8_isEdge 7 = .ok (.iconst 1, 1) := by decide +kernel
theorem dX8_isEdge_8 : decode cX8_isEdge 8 = .ok (.isub, 1) := by decide +kernel
theorem dX8_isEdge_9 : decode cX8_isEdge 9 = .ok (.i2l, 1) := by decide +kernel
theorem dX8_isEdge_10 : decode cX8_isEdge 10 = .ok (.invokestatic 131, 3) := by decide +kernel
theorem dX8_isEdge_13 : decode cX8_isEdge 13 = .ok (.ireturn, 1) := by decide +kernel
theorem dX8_isJoint_0 : decode cX8_isJoint 0 = .ok (.iload_n 1, 1) := by decide +kernel
theorem dX8_isJoint_1 : decode cX8_isJoint 1 = .ok (.i2l, 1) := by decide +kernel
theorem dX8_isJoint_2 : decode cX8_isJoint 2 = .ok (.lconst 0, 1) := by decide +kernel
theorem dX8_isJoint_3 : decode cX8_isJoint 3 = .ok (.aload_n 0, 1) := by decide +kernel
theorem dX8_isJoint_4 : decode cX8_isJoint 4 = .ok (.getfield 229, 3) := by decide +kernel
theorem dX8_isJoint_7 : decode cX8_isJoint 7 = .ok (.iconst 1, 1) := by decide +kernel
theorem dX8_isJoint_8 : decode cX8_isJoint 8 = .ok (.isub, 1) := by decide +kernel
theorem dX8_isJoint_9 : decode cX8_isJoint 9 = .ok (.i2l, 1) := by decide +kernel
theorem dX8_isJoint_10 : decode cX8_isJoint 10 = .ok (.invokestatic 131, 3) := by decide +kernel
theorem dX8_isJoint_13 : decode cX8_isJoint 13 = .ok (.ireturn, 1) := by decide +kernel
theorem dX8_isDrawing_0 : decode cX8_isDrawing 0 = .ok (.iload_n 1, 1) := by decide +kernel
theorem dX8_isDrawing_1 : decode cX8_isDrawing 1 = .ok (.i2l, 1) := by decide +kernel
theorem dX8_isDrawing_2 : decode cX8_isDrawing 2 = .ok (.lconst 1, 1) := by decide +kernel
theorem dX8_isDrawing_3 : decode cX8_isDrawing 3 = .ok (.aload_n 0, 1) := by decide +kernel
theorem dX8_isDrawing_4 : decode cX8_isDrawing 4 = .ok (.getfield 229, 3) := by decide +kernel
theorem dX8_isDrawing_7 : decode cX8_isDrawing 7 = .ok (.iconst 1, 1) := by decide +kernel
theorem dX8_isDrawing_8 : decode cX8_isDrawing 8 = .ok (.isub, 1) := by decide +kernel
theorem dX8_isDrawing_9 : decode cX8_isDrawing 9 = .ok (.i2l, 1) := by decide +kernel
theorem dX8_isDrawing_10 : decode cX8_isDrawing 10 = .ok (.invokestatic 131, 3) := by decide +kernel
theorem dX8_isDrawing_13 : decode cX8_isDrawing 13 = .ok (.ireturn, 1) := by decide +kernel
theorem dX8_dryBits_0 : decode cX8_dryBits 0 = .ok (.aload_n 0, 1) := by decide +kernel
theorem dX8_dryBits_1 : decode cX8_dryBits 1 = .ok (.getfield 266, 3) := by decide +kernel
theorem dX8_dryBits_4 : decode cX8_dryBits 4 = .ok (.iconst (-1), 1) := by decide +kernel
theorem dX8_dryBits_5 : decode cX8_dryBits 5 = .ok (.ixor, 1) := by decide +kernel
theorem dX8_dryBits_6 : decode cX8_dryBits 6 = .ok (.iconst 1, 1) := by decide +kernel
theorem dX8_dryBits_7 : decode cX8_dryBits 7 = .ok (.aload_n 0, 1) := by decide +kernel
theorem dX8_dryBits_8 : decode cX8_dryBits 8 = .ok (.getfield 229, 3) := by decide +kernel
theorem dX8_dryBits_11 : decode cX8_dryBits 11 = .ok (.ishl, 1) := by decide +kernel
theorem dX8_dryBits_12 : decode cX8_dryBits 12 = .ok (.iconst 1, 1) := by decide +kernel
theorem dX8_dryBits_13 : decode cX8_dryBits 13 = .ok (.isub, 1) := by decide +kernel
theorem dX8_dryBits_14 : decode cX8_dryBits 14 = .ok (.iand, 1) := by decide +kernel
theorem dX8_dryBits_15 : decode cX8_dryBits 15 = .ok (.ireturn, 1) := by decide +kernel
theorem dX8_ones_0 : decode cX8_ones 0 = .ok (.iconst 0, 1) := by decide +kernel
theorem dX8_ones_1 : decode cX8_ones 1 = .ok (.istore_n 1, 1) := by decide +kernel
theorem dX8_ones_2 : decode cX8_ones 2 = .ok (.iconst 0, 1) := by decide +kernel
theorem dX8_ones_3 : decode cX8_ones 3 = .ok (.istore_n 2, 1) := by decide +kernel
theorem dX8_ones_4 : decode cX8_ones 4 = .ok (.iload_n 2, 1) := by decide +kernel
theorem dX8_ones_5 : decode cX8_ones 5 = .ok (.bipush 16, 2) := by decide +kernel
theorem dX8_ones_7 : decode cX8_ones 7 = .ok (.if_icmp .ge 17, 3) := by decide +kernel
theorem dX8_ones_10 : decode cX8_ones 10 = .ok (.iload_n 1, 1) := by decide +kernel
theorem dX8_ones_11 : decode cX8_ones 11 = .ok (.iload_n 0, 1) := by decide +kernel
theorem dX8_ones_12 : decode cX8_ones 12 = .ok (.iload_n 2, 1) := by decide +kernel
theorem dX8_ones_13 : decode cX8_ones 13 = .ok (.ishr, 1) := by decide +kernel
theorem dX8_ones_14 : decode cX8_ones 14 = .ok (.iconst 1, 1) := by decide +kernel
theorem dX8_ones_15 : decode cX8_ones 15 = .ok (.iand, 1) := by decide +kernel
theorem dX8_ones_16 : decode cX8_ones 16 = .ok (.iadd, 1) := by decide +kernel
theorem dX8_ones_17 : decode cX8_ones 17 = .ok (.istore_n 1, 1) := by decide +kernel
theorem dX8_ones_18 : decode cX8_ones 18 = .ok (.iinc 2 1, 3) := by decide +kernel
theorem dX8_ones_21 : decode cX8_ones 21 = .ok (.goto (-17), 3) := by decide +kernel
theorem dX8_ones_24 : decode cX8_ones 24 = .ok (.iload_n 1, 1) := by decide +kernel
theorem dX8_ones_25 : decode cX8_ones 25 = .ok (.ireturn, 1) := by decide +kernel
theorem dX8_given_0 : decode cX8_given 0 = .ok (.iconst 0, 1) := by decide +kernel
theorem dX8_given_1 : decode cX8_given 1 = .ok (.istore_n 1, 1) := by decide +kernel
theorem dX8_given_2 : decode cX8_given 2 = .ok (.iconst 1, 1) := by decide +kernel
theorem dX8_given_3 : decode cX8_given 3 = .ok (.istore_n 2, 1) := by decide +kernel
theorem dX8_given_4 : decode cX8_given 4 = .ok (.iload_n 2, 1) := by decide +kernel
theorem dX8_given_5 : decode cX8_given 5 = .ok (.aload_n 0, 1) := by decide +kernel
theorem dX8_given_6 : decode cX8_given 6 = .ok (.getfield 229, 3) := by decide +kernel
theorem dX8_given_9 : decode cX8_given 9 = .ok (.if_icmp .ge 30, 3) := by decide +kernel
theorem dX8_given_12 : decode cX8_given 12 = .ok (.iload_n 1, 1) := by decide +kernel
theorem dX8_given_13 : decode cX8_given 13 = .ok (.aload_n 0, 1) := by decide +kernel
theorem dX8_given_14 : decode cX8_given 14 = .ok (.iload_n 2, 1) := by decide +kernel
theorem dX8_given_15 : decode cX8_given 15 = .ok (.invokevirtual 272, 3) := by decide +kernel
theorem dX8_given_18 : decode cX8_given 18 = .ok (.ifCond .eq 12, 3) := by decide +kernel
theorem dX8_given_21 : decode cX8_given 21 = .ok (.aload_n 0, 1) := by decide +kernel
theorem dX8_given_22 : decode cX8_given 22 = .ok (.getfield 19, 3) := by decide +kernel
theorem dX8_given_25 : decode cX8_given 25 = .ok (.iload_n 2, 1) := by decide +kernel
theorem dX8_given_26 : decode cX8_given 26 = .ok (.iaload, 1) := by decide +kernel
theorem dX8_given_27 : decode cX8_given 27 = .ok (.goto 4, 3) := by decide +kernel
theorem dX8_given_30 : decode cX8_given 30 = .ok (.iconst 0, 1) := by decide +kernel
theorem dX8_given_31 : decode cX8_given 31 = .ok (.iadd, 1) := by decide +kernel
theorem dX8_given_32 : decode cX8_given 32 = .ok (.istore_n 1, 1) := by decide +kernel
theorem dX8_given_33 : decode cX8_given 33 = .ok (.iinc 2 1, 3) := by decide +kernel
theorem dX8_given_36 : decode cX8_given 36 = .ok (.goto (-32), 3) := by decide +kernel
theorem dX8_given_39 : decode cX8_given 39 = .ok (.iload_n 1, 1) := by decide +kernel
theorem dX8_given_40 : decode cX8_given 40 = .ok (.ireturn, 1) := by decide +kernel
theorem dX8_about_0 : decode cX8_about 0 = .ok (.aload_n 0, 1) := by decide +kernel
theorem dX8_about_1 : decode cX8_about 1 = .ok (.aload_n 0, 1) := by decide +kernel
theorem dX8_about_2 : decode cX8_about 2 = .ok (.getfield 229, 3) := by decide +kernel
theorem dX8_about_5 : decode cX8_about 5 = .ok (.ifCond .le 19, 3) := by decide +kernel
theorem dX8_about_8 : decode cX8_about 8 = .ok (.iload_n 1, 1) := by decide +kernel
theorem dX8_about_9 : decode cX8_about 9 = .ok (.i2l, 1) := by decide +kernel
theorem dX8_about_10 : decode cX8_about 10 = .ok (.lconst 0, 1) := by decide +kernel
theorem dX8_about_11 : decode cX8_about 11 = .ok (.ldc2_w 304, 3) := by decide +kernel
theorem dX8_about_14 : decode cX8_about 14 = .ok (.invokestatic 131, 3) := by decide +kernel
theorem dX8_about_17 : decode cX8_about 17 = .ok (.ifCond .eq 7, 3) := by decide +kernel
theorem dX8_about_20 : decode cX8_about 20 = .ok (.iconst 1, 1) := by decide +kernel
theorem dX8_about_21 : decode cX8_about 21 = .ok (.goto 4, 3) := by decide +kernel
theorem dX8_about_24 : decode cX8_about 24 = .ok (.iconst 0, 1) := by decide +kernel
theorem dX8_about_25 : decode cX8_about 25 = .ok (.invokestatic 330, 3) := by decide +kernel
theorem dX8_about_28 : decode cX8_about 28 = .ok (.invokevirtual 245, 3) := by decide +kernel
theorem dX8_about_31 : decode cX8_about 31 = .ok (.ifCond .eq 5, 3) := by decide +kernel
theorem dX8_about_34 : decode cX8_about 34 = .ok (.iconst (-1), 1) := by decide +kernel
theorem dX8_about_35 : decode cX8_about 35 = .ok (.ireturn, 1) := by decide +kernel
theorem dX8_about_36 : decode cX8_about 36 = .ok (.iload_n 1, 1) := by decide +kernel
theorem dX8_about_37 : decode cX8_about 37 = .ok (.tableswitch 113 0 9 #[55, 60, 65, 70, 83, 88, 93, 98, 103, 108], 55) := by decide +kernel
theorem dX8_about_92 : decode cX8_about 92 = .ok (.aload_n 0, 1) := by decide +kernel
theorem dX8_about_93 : decode cX8_about 93 = .ok (.getfield 229, 3) := by decide +kernel
theorem dX8_about_96 : decode cX8_about 96 = .ok (.ireturn, 1) := by decide +kernel
theorem dX8_about_97 : decode cX8_about 97 = .ok (.aload_n 0, 1) := by decide +kernel
theorem dX8_about_98 : decode cX8_about 98 = .ok (.getfield 232, 3) := by decide +kernel
theorem dX8_about_101 : decode cX8_about 101 = .ok (.ireturn, 1) := by decide +kernel
theorem dX8_about_102 : decode cX8_about 102 = .ok (.aload_n 0, 1) := by decide +kernel
theorem dX8_about_103 : decode cX8_about 103 = .ok (.getfield 288, 3) := by decide +kernel
theorem dX8_about_106 : decode cX8_about 106 = .ok (.ireturn, 1) := by decide +kernel
theorem dX8_about_107 : decode cX8_about 107 = .ok (.aload_n 0, 1) := by decide +kernel
theorem dX8_about_108 : decode cX8_about 108 = .ok (.getfield 366, 3) := by decide +kernel
theorem dX8_about_111 : decode cX8_about 111 = .ok (.ifCond .eq 7, 3) := by decide +kernel
theorem dX8_about_114 : decode cX8_about 114 = .ok (.iconst 1, 1) := by decide +kernel
theorem dX8_about_115 : decode cX8_about 115 = .ok (.goto 4, 3) := by decide +kernel
theorem dX8_about_118 : decode cX8_about 118 = .ok (.iconst 0, 1) := by decide +kernel
theorem dX8_about_119 : decode cX8_about 119 = .ok (.ireturn, 1) := by decide +kernel
theorem dX8_about_120 : decode cX8_about 120 = .ok (.aload_n 0, 1) := by decide +kernel
theorem dX8_about_121 : decode cX8_about 121 = .ok (.getfield 363, 3) := by decide +kernel
theorem dX8_about_124 : decode cX8_about 124 = .ok (.ireturn, 1) := by decide +kernel
theorem dX8_about_125 : decode cX8_about 125 = .ok (.aload_n 0, 1) := by decide +kernel
theorem dX8_about_126 : decode cX8_about 126 = .ok (.getfield 373, 3) := by decide +kernel
theorem dX8_about_129 : decode cX8_about 129 = .ok (.ireturn, 1) := by decide +kernel
theorem dX8_about_130 : decode cX8_about 130 = .ok (.aload_n 0, 1) := by decide +kernel
theorem dX8_about_131 : decode cX8_about 131 = .ok (.invokevirtual 388, 3) := by decide +kernel
theorem dX8_about_134 : decode cX8_about 134 = .ok (.ireturn, 1) := by decide +kernel
theorem dX8_about_135 : decode cX8_about 135 = .ok (.aload_n 0, 1) := by decide +kernel
theorem dX8_about_136 : decode cX8_about 136 = .ok (.getfield 238, 3) := by decide +kernel
theorem dX8_about_139 : decode cX8_about 139 = .ok (.ireturn, 1) := by decide +kernel
theorem dX8_about_140 : decode cX8_about 140 = .ok (.aload_n 0, 1) := by decide +kernel
theorem dX8_about_141 : decode cX8_about 141 = .ok (.invokevirtual 391, 3) := by decide +kernel
theorem dX8_about_144 : decode cX8_about 144 = .ok (.ireturn, 1) := by decide +kernel
theorem dX8_about_145 : decode cX8_about 145 = .ok (.aload_n 0, 1) := by decide +kernel
theorem dX8_about_146 : decode cX8_about 146 = .ok (.getfield 263, 3) := by decide +kernel
theorem dX8_about_149 : decode cX8_about 149 = .ok (.ireturn, 1) := by decide +kernel
theorem dX8_about_150 : decode cX8_about 150 = .ok (.aload_n 0, 1) := by decide +kernel
theorem dX8_about_151 : decode cX8_about 151 = .ok (.invokevirtual 394, 3) := by decide +kernel
theorem dX8_about_154 : decode cX8_about 154 = .ok (.ireturn, 1) := by decide +kernel
theorem dX8_ringsOf_0 : decode cX8_ringsOf 0 = .ok (.iconst 0, 1) := by decide +kernel
theorem dX8_ringsOf_1 : decode cX8_ringsOf 1 = .ok (.istore_n 2, 1) := by decide +kernel
theorem dX8_ringsOf_2 : decode cX8_ringsOf 2 = .ok (.iconst 0, 1) := by decide +kernel
theorem dX8_ringsOf_3 : decode cX8_ringsOf 3 = .ok (.istore_n 3, 1) := by decide +kernel
theorem dX8_ringsOf_4 : decode cX8_ringsOf 4 = .ok (.iload_n 3, 1) := by decide +kernel
theorem dX8_ringsOf_5 : decode cX8_ringsOf 5 = .ok (.aload_n 0, 1) := by decide +kernel
theorem dX8_ringsOf_6 : decode cX8_ringsOf 6 = .ok (.getfield 288, 3) := by decide +kernel
theorem dX8_ringsOf_9 : decode cX8_ringsOf 9 = .ok (.if_icmp .ge 53, 3) := by decide +kernel
theorem dX8_ringsOf_12 : decode cX8_ringsOf 12 = .ok (.iconst 0, 1) := by decide +kernel
theorem dX8_ringsOf_13 : decode cX8_ringsOf 13 = .ok (.istore 4, 2) := by decide +kernel
theorem dX8_ringsOf_15 : decode cX8_ringsOf 15 = .ok (.iload 4, 2) := by decide +kernel
theorem dX8_ringsOf_17 : decode cX8_ringsOf 17 = .ok (.aload_n 0, 1) := by decide +kernel
theorem dX8_ringsOf_18 : decode cX8_ringsOf 18 = .ok (.getfield 62, 3) := by decide +kernel
theorem dX8_ringsOf_21 : decode cX8_ringsOf 21 = .ok (.iload_n 3, 1) := by decide +kernel
theorem dX8_ringsOf_22 : decode cX8_ringsOf 22 = .ok (.iaload, 1) := by decide +kernel
theorem dX8_ringsOf_23 : decode cX8_ringsOf 23 = .ok (.if_icmp .ge 33, 3) := by decide +kernel
theorem dX8_ringsOf_26 : decode cX8_ringsOf 26 = .ok (.iload_n 2, 1) := by decide +kernel
theorem dX8_ringsOf_27 : decode cX8_ringsOf 27 = .ok (.aload_n 0, 1) := by decide +kernel
theorem dX8_ringsOf_28 : decode cX8_ringsOf 28 = .ok (.getfield 56, 3) := by decide +kernel
theorem dX8_ringsOf_31 : decode cX8_ringsOf 31 = .ok (.bipush 14, 2) := by decide +kernel
theorem dX8_ringsOf_33 : decode cX8_ringsOf 33 = .ok (.iload_n 3, 1) := by decide +kernel
theorem dX8_ringsOf_34 : decode cX8_ringsOf 34 = .ok (.imul, 1) := by decide +kernel
theorem dX8_ringsOf_35 : decode cX8_ringsOf 35 = .ok (.iload 4, 2) := by decide +kernel
theorem dX8_ringsOf_37 : decode cX8_ringsOf 37 = .ok (.iadd, 1) := by decide +kernel
theorem dX8_ringsOf_38 : decode cX8_ringsOf 38 = .ok (.iaload, 1) := by decide +kernel
theorem dX8_ringsOf_39 : decode cX8_ringsOf 39 = .ok (.iload_n 1, 1) := by decide +kernel
theorem dX8_ringsOf_40 : decode cX8_ringsOf 40 = .ok (.if_icmp .ne 7, 3) := by decide +kernel
theorem dX8_ringsOf_43 : decode cX8_ringsOf 43 = .ok (.iconst 1, 1) := by decide +kernel
theorem dX8_ringsOf_44 : decode cX8_ringsOf 44 = .ok (.goto 4, 3) := by decide +kernel
theorem dX8_ringsOf_47 : decode cX8_ringsOf 47 = .ok (.iconst 0, 1) := by decide +kernel
theorem dX8_ringsOf_48 : decode cX8_ringsOf 48 = .ok (.iadd, 1) := by decide +kernel
theorem dX8_ringsOf_49 : decode cX8_ringsOf 49 = .ok (.istore_n 2, 1) := by decide +kernel
theorem dX8_ringsOf_50 : decode cX8_ringsOf 50 = .ok (.iinc 4 1, 3) := by decide +kernel
theorem dX8_ringsOf_53 : decode cX8_ringsOf 53 = .ok (.goto (-38), 3) := by decide +kernel
theorem dX8_ringsOf_56 : decode cX8_ringsOf 56 = .ok (.iinc 3 1, 3) := by decide +kernel
theorem dX8_ringsOf_59 : decode cX8_ringsOf 59 = .ok (.goto (-55), 3) := by decide +kernel
theorem dX8_ringsOf_62 : decode cX8_ringsOf 62 = .ok (.iload_n 2, 1) := by decide +kernel
theorem dX8_ringsOf_63 : decode cX8_ringsOf 63 = .ok (.ireturn, 1) := by decide +kernel
theorem dX8_edge_0 : decode cX8_edge 0 = .ok (.aload_n 0, 1) := by decide +kernel
theorem dX8_edge_1 : decode cX8_edge 1 = .ok (.aload_n 0, 1) := by decide +kernel
theorem dX8_edge_2 : decode cX8_edge 2 = .ok (.iload_n 1, 1) := by decide +kernel
theorem dX8_edge_3 : decode cX8_edge 3 = .ok (.invokevirtual 317, 3) := by decide +kernel
theorem dX8_edge_6 : decode cX8_edge 6 = .ok (.ifCond .eq 19, 3) := by decide +kernel
theorem dX8_edge_9 : decode cX8_edge 9 = .ok (.iload_n 2, 1) := by decide +kernel
theorem dX8_edge_10 : decode cX8_edge 10 = .ok (.i2l, 1) := by decide +kernel
theorem dX8_edge_11 : decode cX8_edge 11 = .ok (.lconst 0, 1) := by decide +kernel
theorem dX8_edge_12 : decode cX8_edge 12 = .ok (.ldc2_w 397, 3) := by decide +kernel
theorem dX8_edge_15 : decode cX8_edge 15 = .ok (.invokestatic 131, 3) := by decide +kernel
theorem dX8_edge_18 : decode cX8_edge 18 = .ok (.ifCond .eq 7, 3) := by decide +kernel
theorem dX8_edge_21 : decode cX8_edge 21 = .ok (.iconst 1, 1) := by decide +kernel
theorem dX8_edge_22 : decode cX8_edge 22 = .ok (.goto 4, 3) := by decide +kernel
theorem dX8_edge_25 : decode cX8_edge 25 = .ok (.iconst 0, 1) := by decide +kernel
theorem dX8_edge_26 : decode cX8_edge 26 = .ok (.invokestatic 330, 3) := by decide +kernel
theorem dX8_edge_29 : decode cX8_edge 29 = .ok (.invokevirtual 245, 3) := by decide +kernel
theorem dX8_edge_32 : decode cX8_edge 32 = .ok (.ifCond .eq 5, 3) := by decide +kernel
theorem dX8_edge_35 : decode cX8_edge 35 = .ok (.iconst (-1), 1) := by decide +kernel
theorem dX8_edge_36 : decode cX8_edge 36 = .ok (.ireturn, 1) := by decide +kernel
theorem dX8_edge_37 : decode cX8_edge 37 = .ok (.iload_n 2, 1) := by decide +kernel
theorem dX8_edge_38 : decode cX8_edge 38 = .ok (.tableswitch 102 0 6 #[42, 49, 56, 63, 70, 79, 88], 42) := by decide +kernel
theorem dX8_edge_80 : decode cX8_edge 80 = .ok (.aload_n 0, 1) := by decide +kernel
theorem dX8_edge_81 : decode cX8_edge 81 = .ok (.getfield 28, 3) := by decide +kernel
theorem dX8_edge_84 : decode cX8_edge 84 = .ok (.iload_n 1, 1) := by decide +kernel
theorem dX8_edge_85 : decode cX8_edge 85 = .ok (.iaload, 1) := by decide +kernel
theorem dX8_edge_86 : decode cX8_edge 86 = .ok (.ireturn, 1) := by decide +kernel
theorem dX8_edge_87 : decode cX8_edge 87 = .ok (.aload_n 0, 1) := by decide +kernel
theorem dX8_edge_88 : decode cX8_edge 88 = .ok (.getfield 31, 3) := by decide +kernel
theorem dX8_edge_91 : decode cX8_edge 91 = .ok (.iload_n 1, 1) := by decide +kernel
theorem dX8_edge_92 : decode cX8_edge 92 = .ok (.iaload, 1) := by decide +kernel
theorem dX8_edge_93 : decode cX8_edge 93 = .ok (.ireturn, 1) := by decide +kernel
theorem dX8_edge_94 : decode cX8_edge 94 = .ok (.aload_n 0, 1) := by decide +kernel
theorem dX8_edge_95 : decode cX8_edge 95 = .ok (.getfield 34, 3) := by decide +kernel
theorem dX8_edge_98 : decode cX8_edge 98 = .ok (.iload_n 1, 1) := by decide +kernel
theorem dX8_edge_99 : decode cX8_edge 99 = .ok (.iaload, 1) := by decide +kernel
theorem dX8_edge_100 : decode cX8_edge 100 = .ok (.ireturn, 1) := by decide +kernel
theorem dX8_edge_101 : decode cX8_edge 101 = .ok (.aload_n 0, 1) := by decide +kernel
theorem dX8_edge_102 : decode cX8_edge 102 = .ok (.getfield 37, 3) := by decide +kernel
theorem dX8_edge_105 : decode cX8_edge 105 = .ok (.iload_n 1, 1) := by decide +kernel
theorem dX8_edge_106 : decode cX8_edge 106 = .ok (.iaload, 1) := by decide +kernel
theorem dX8_edge_107 : decode cX8_edge 107 = .ok (.ireturn, 1) := by decide +kernel
theorem dX8_edge_108 : decode cX8_edge 108 = .ok (.aload_n 0, 1) := by decide +kernel
theorem dX8_edge_109 : decode cX8_edge 109 = .ok (.getfield 235, 3) := by decide +kernel
theorem dX8_edge_112 : decode cX8_edge 112 = .ok (.iload_n 1, 1) := by decide +kernel
theorem dX8_edge_113 : decode cX8_edge 113 = .ok (.ishr, 1) := by decide +kernel
theorem dX8_edge_114 : decode cX8_edge 114 = .ok (.iconst 1, 1) := by decide +kernel
theorem dX8_edge_115 : decode cX8_edge 115 = .ok (.iand, 1) := by decide +kernel
theorem dX8_edge_116 : decode cX8_edge 116 = .ok (.ireturn, 1) := by decide +kernel
theorem dX8_edge_117 : decode cX8_edge 117 = .ok (.aload_n 0, 1) := by decide +kernel
theorem dX8_edge_118 : decode cX8_edge 118 = .ok (.getfield 263, 3) := by decide +kernel
theorem dX8_edge_121 : decode cX8_edge 121 = .ok (.iload_n 1, 1) := by decide +kernel
theorem dX8_edge_122 : decode cX8_edge 122 = .ok (.ishr, 1) := by decide +kernel
theorem dX8_edge_123 : decode cX8_edge 123 = .ok (.iconst 1, 1) := by decide +kernel
theorem dX8_edge_124 : decode cX8_edge 124 = .ok (.iand, 1) := by decide +kernel
theorem dX8_edge_125 : decode cX8_edge 125 = .ok (.ireturn, 1) := by decide +kernel
theorem dX8_edge_126 : decode cX8_edge 126 = .ok (.aload_n 0, 1) := by decide +kernel
theorem dX8_edge_127 : decode cX8_edge 127 = .ok (.iload_n 1, 1) := by decide +kernel
theorem dX8_edge_128 : decode cX8_edge 128 = .ok (.invokevirtual 354, 3) := by decide +kernel
theorem dX8_edge_131 : decode cX8_edge 131 = .ok (.ifCond .eq 7, 3) := by decide +kernel
theorem dX8_edge_134 : decode cX8_edge 134 = .ok (.iconst 1, 1) := by decide +kernel
theorem dX8_edge_135 : decode cX8_edge 135 = .ok (.goto 4, 3) := by decide +kernel
theorem dX8_edge_138 : decode cX8_edge 138 = .ok (.iconst 0, 1) := by decide +kernel
theorem dX8_edge_139 : decode cX8_edge 139 = .ok (.ireturn, 1) := by decide +kernel
theorem dX8_edge_140 : decode cX8_edge 140 = .ok (.aload_n 0, 1) := by decide +kernel
theorem dX8_edge_141 : decode cX8_edge 141 = .ok (.iload_n 1, 1) := by decide +kernel
theorem dX8_edge_142 : decode cX8_edge 142 = .ok (.invokevirtual 399, 3) := by decide +kernel
theorem dX8_edge_145 : decode cX8_edge 145 = .ok (.ireturn, 1) := by decide +kernel
theorem dX8_flow_0 : decode cX8_flow 0 = .ok (.aload_n 0, 1) := by decide +kernel
theorem dX8_flow_1 : decode cX8_flow 1 = .ok (.aload_n 0, 1) := by decide +kernel
theorem dX8_flow_2 : decode cX8_flow 2 = .ok (.iload_n 1, 1) := by decide +kernel
theorem dX8_flow_3 : decode cX8_flow 3 = .ok (.invokevirtual 317, 3) := by decide +kernel
theorem dX8_flow_6 : decode cX8_flow 6 = .ok (.invokestatic 330, 3) := by decide +kernel
theorem dX8_flow_9 : decode cX8_flow 9 = .ok (.invokevirtual 245, 3) := by decide +kernel
theorem dX8_flow_12 : decode cX8_flow 12 = .ok (.ifCond .eq 9, 3) := by decide +kernel
theorem dX8_flow_15 : decode cX8_flow 15 = .ok (.ldc2_w 102, 3) := by decide +kernel
theorem dX8_flow_18 : decode cX8_flow 18 = .ok (.goto 9, 3) := by decide +kernel
theorem dX8_flow_21 : decode cX8_flow 21 = .ok (.aload_n 0, 1) := by decide +kernel
theorem dX8_flow_22 : decode cX8_flow 22 = .ok (.getfield 52, 3) := by decide +kernel
theorem dX8_flow_25 : decode cX8_flow 25 = .ok (.iload_n 1, 1) := by decide +kernel
theorem dX8_flow_26 : decode cX8_flow 26 = .ok (.laload, 1) := by decide +kernel
theorem dX8_flow_27 : decode cX8_flow 27 = .ok (.lreturn, 1) := by decide +kernel
theorem dX8_loss_0 : decode cX8_loss 0 = .ok (.aload_n 0, 1) := by decide +kernel
theorem dX8_loss_1 : decode cX8_loss 1 = .ok (.aload_n 0, 1) := by decide +kernel
theorem dX8_loss_2 : decode cX8_loss 2 = .ok (.iload_n 1, 1) := by decide +kernel
theorem dX8_loss_3 : decode cX8_loss 3 = .ok (.invokevirtual 317, 3) := by decide +kernel
theorem dX8_loss_6 : decode cX8_loss 6 = .ok (.invokestatic 330, 3) := by decide +kernel
theorem dX8_loss_9 : decode cX8_loss 9 = .ok (.invokevirtual 245, 3) := by decide +kernel
theorem dX8_loss_12 : decode cX8_loss 12 = .ok (.ifCond .eq 9, 3) := by decide +kernel
theorem dX8_loss_15 : decode cX8_loss 15 = .ok (.ldc2_w 102, 3) := by decide +kernel
theorem dX8_loss_18 : decode cX8_loss 18 = .ok (.goto 14, 3) := by decide +kernel
theorem dX8_loss_21 : decode cX8_loss 21 = .ok (.aload_n 0, 1) := by decide +kernel
theorem dX8_loss_22 : decode cX8_loss 22 = .ok (.iload_n 1, 1) := by decide +kernel
theorem dX8_loss_23 : decode cX8_loss 23 = .ok (.aload_n 0, 1) := by decide +kernel
theorem dX8_loss_24 : decode cX8_loss 24 = .ok (.getfield 52, 3) := by decide +kernel
theorem dX8_loss_27 : decode cX8_loss 27 = .ok (.iload_n 1, 1) := by decide +kernel
theorem dX8_loss_28 : decode cX8_loss 28 = .ok (.laload, 1) := by decide +kernel
theorem dX8_loss_29 : decode cX8_loss 29 = .ok (.invokevirtual 324, 3) := by decide +kernel
theorem dX8_loss_32 : decode cX8_loss 32 = .ok (.lreturn, 1) := by decide +kernel
theorem dX8_endsAt_0 : decode cX8_endsAt 0 = .ok (.iconst 0, 1) := by decide +kernel
theorem dX8_endsAt_1 : decode cX8_endsAt 1 = .ok (.istore_n 2, 1) := by decide +kernel
theorem dX8_endsAt_2 : decode cX8_endsAt 2 = .ok (.iconst 0, 1) := by decide +kernel
theorem dX8_endsAt_3 : decode cX8_endsAt 3 = .ok (.istore_n 3, 1) := by decide +kernel
theorem dX8_endsAt_4 : decode cX8_endsAt 4 = .ok (.iload_n 3, 1) := by decide +kernel
theorem dX8_endsAt_5 : decode cX8_endsAt 5 = .ok (.aload_n 0, 1) := by decide +kernel
theorem dX8_endsAt_6 : decode cX8_endsAt 6 = .ok (.getfield 232, 3) := by decide +kernel
theorem dX8_endsAt_9 : decode cX8_endsAt 9 = .ok (.if_icmp .ge 39, 3) := by decide +kernel
theorem dX8_endsAt_12 : decode cX8_endsAt 12 = .ok (.iload_n 2, 1) := by decide +kernel
theorem dX8_endsAt_13 : decode cX8_endsAt 13 = .ok (.aload_n 0, 1) := by decide +kernel
theorem dX8_endsAt_14 : decode cX8_endsAt 14 = .ok (.getfield 28, 3) := by decide +kernel
theorem dX8_endsAt_17 : decode cX8_endsAt 17 = .ok (.iload_n 3, 1) := by decide +kernel
theorem dX8_endsAt_18 : decode cX8_endsAt 18 = .ok (.iaload, 1) := by decide +kernel
theorem dX8_endsAt_19 : decode cX8_endsAt 19 = .ok (.iload_n 1, 1) := by decide +kernel
theorem dX8_endsAt_20 : decode cX8_endsAt 20 = .ok (.if_icmp .eq 13, 3) := by decide +kernel
theorem dX8_endsAt_23 : decode cX8_endsAt 23 = .ok (.aload_n 0, 1) := by decide +kernel
theorem dX8_endsAt_24 : decode cX8_endsAt 24 = .ok (.getfield 31, 3) := by decide +kernel
theorem dX8_endsAt_27 : decode cX8_endsAt 27 = .ok (.iload_n 3, 1) := by decide +kernel
theorem dX8_endsAt_28 : decode cX8_endsAt 28 = .ok (.iaload, 1) := by decide +kernel
theorem dX8_endsAt_29 : decode cX8_endsAt 29 = .ok (.iload_n 1, 1) := by decide +kernel
theorem dX8_endsAt_30 : decode cX8_endsAt 30 = .ok (.if_icmp .ne 9, 3) := by decide +kernel
theorem dX8_endsAt_33 : decode cX8_endsAt 33 = .ok (.iconst 1, 1) := by decide +kernel
theorem dX8_endsAt_34 : decode cX8_endsAt 34 = .ok (.iload_n 3, 1) := by decide +kernel
theorem dX8_endsAt_35 : decode cX8_endsAt 35 = .ok (.ishl, 1) := by decide +kernel
theorem dX8_endsAt_36 : decode cX8_endsAt 36 = .ok (.goto 4, 3) := by decide +kernel
theorem dX8_endsAt_39 : decode cX8_endsAt 39 = .ok (.iconst 0, 1) := by decide +kernel
theorem dX8_endsAt_40 : decode cX8_endsAt 40 = .ok (.ior, 1) := by decide +kernel
theorem dX8_endsAt_41 : decode cX8_endsAt 41 = .ok (.istore_n 2, 1) := by decide +kernel
theorem dX8_endsAt_42 : decode cX8_endsAt 42 = .ok (.iinc 3 1, 3) := by decide +kernel
theorem dX8_endsAt_45 : decode cX8_endsAt 45 = .ok (.goto (-41), 3) := by decide +kernel
theorem dX8_endsAt_48 : decode cX8_endsAt 48 = .ok (.iload_n 2, 1) := by decide +kernel
theorem dX8_endsAt_49 : decode cX8_endsAt 49 = .ok (.ireturn, 1) := by decide +kernel
theorem dX8_joint_0 : decode cX8_joint 0 = .ok (.aload_n 0, 1) := by decide +kernel
theorem dX8_joint_1 : decode cX8_joint 1 = .ok (.aload_n 0, 1) := by decide +kernel
theorem dX8_joint_2 : decode cX8_joint 2 = .ok (.iload_n 1, 1) := by decide +kernel
theorem dX8_joint_3 : decode cX8_joint 3 = .ok (.invokevirtual 327, 3) := by decide +kernel
theorem dX8_joint_6 : decode cX8_joint 6 = .ok (.ifCond .eq 19, 3) := by decide +kernel
theorem dX8_joint_9 : decode cX8_joint 9 = .ok (.iload_n 2, 1) := by decide +kernel
theorem dX8_joint_10 : decode cX8_joint 10 = .ok (.i2l, 1) := by decide +kernel
theorem dX8_joint_11 : decode cX8_joint 11 = .ok (.lconst 0, 1) := by decide +kernel
theorem dX8_joint_12 : decode cX8_joint 12 = .ok (.ldc2_w 402, 3) := by decide +kernel
theorem dX8_joint_15 : decode cX8_joint 15 = .ok (.invokestatic 131, 3) := by decide +kernel
theorem dX8_joint_18 : decode cX8_joint 18 = .ok (.ifCond .eq 7, 3) := by decide +kernel
theorem dX8_joint_21 : decode cX8_joint 21 = .ok (.iconst 1, 1) := by decide +kernel
theorem dX8_joint_22 : decode cX8_joint 22 = .ok (.goto 4, 3) := by decide +kernel
theorem dX8_joint_25 : decode cX8_joint 25 = .ok (.iconst 0, 1) := by decide +kernel
theorem dX8_joint_26 : decode cX8_joint 26 = .ok (.invokestatic 330, 3) := by decide +kernel
theorem dX8_joint_29 : decode cX8_joint 29 = .ok (.invokevirtual 245, 3) := by decide +kernel
theorem dX8_joint_32 : decode cX8_joint 32 = .ok (.ifCond .eq 5, 3) := by decide +kernel
theorem dX8_joint_35 : decode cX8_joint 35 = .ok (.iconst (-1), 1) := by decide +kernel
theorem dX8_joint_36 : decode cX8_joint 36 = .ok (.ireturn, 1) := by decide +kernel
theorem dX8_joint_37 : decode cX8_joint 37 = .ok (.iload_n 2, 1) := by decide +kernel
theorem dX8_joint_38 : decode cX8_joint 38 = .ok (.tableswitch 58 0 2 #[26, 41, 51], 26) := by decide +kernel
theorem dX8_joint_64 : decode cX8_joint 64 = .ok (.iload_n 1, 1) := by decide +kernel
theorem dX8_joint_65 : decode cX8_joint 65 = .ok (.ifCond .ne 7, 3) := by decide +kernel
theorem dX8_joint_68 : decode cX8_joint 68 = .ok (.iconst 0, 1) := by decide +kernel
theorem dX8_joint_69 : decode cX8_joint 69 = .ok (.goto 9, 3) := by decide +kernel
theorem dX8_joint_72 : decode cX8_joint 72 = .ok (.aload_n 0, 1) := by decide +kernel
theorem dX8_joint_73 : decode cX8_joint 73 = .ok (.getfield 19, 3) := by decide +kernel
theorem dX8_joint_76 : decode cX8_joint 76 = .ok (.iload_n 1, 1) := by decide +kernel
theorem dX8_joint_77 : decode cX8_joint 77 = .ok (.iaload, 1) := by decide +kernel
theorem dX8_joint_78 : decode cX8_joint 78 = .ok (.ireturn, 1) := by decide +kernel
theorem dX8_joint_79 : decode cX8_joint 79 = .ok (.bipush 100, 2) := by decide +kernel
theorem dX8_joint_81 : decode cX8_joint 81 = .ok (.aload_n 0, 1) := by decide +kernel
theorem dX8_joint_82 : decode cX8_joint 82 = .ok (.getfield 22, 3) := by decide +kernel
theorem dX8_joint_85 : decode cX8_joint 85 = .ok (.iload_n 1, 1) := by decide +kernel
theorem dX8_joint_86 : decode cX8_joint 86 = .ok (.iaload, 1) := by decide +kernel
theorem dX8_joint_87 : decode cX8_joint 87 = .ok (.imul, 1) := by decide +kernel
theorem dX8_joint_88 : decode cX8_joint 88 = .ok (.ireturn, 1) := by decide +kernel
theorem dX8_joint_89 : decode cX8_joint 89 = .ok (.aload_n 0, 1) := by decide +kernel
theorem dX8_joint_90 : decode cX8_joint 90 = .ok (.getfield 46, 3) := by decide +kernel
theorem dX8_joint_93 : decode cX8_joint 93 = .ok (.iload_n 1, 1) := by decide +kernel
theorem dX8_joint_94 : decode cX8_joint 94 = .ok (.iaload, 1) := by decide +kernel
theorem dX8_joint_95 : decode cX8_joint 95 = .ok (.ireturn, 1) := by decide +kernel
theorem dX8_joint_96 : decode cX8_joint 96 = .ok (.aload_n 0, 1) := by decide +kernel
theorem dX8_joint_97 : decode cX8_joint 97 = .ok (.iload_n 1, 1) := by decide +kernel
theorem dX8_joint_98 : decode cX8_joint 98 = .ok (.invokevirtual 404, 3) := by decide +kernel
theorem dX8_joint_101 : decode cX8_joint 101 = .ok (.ireturn, 1) := by decide +kernel
theorem dX8_pressureOf_0 : decode cX8_pressureOf 0 = .ok (.iload_n 1, 1) := by decide +kernel
theorem dX8_pressureOf_1 : decode cX8_pressureOf 1 = .ok (.ifCond .ne 7, 3) := by decide +kernel
theorem dX8_pressureOf_4 : decode cX8_pressureOf 4 = .ok (.lconst 0, 1) := by decide +kernel
theorem dX8_pressureOf_5 : decode cX8_pressureOf 5 = .ok (.goto 21, 3) := by decide +kernel
theorem dX8_pressureOf_8 : decode cX8_pressureOf 8 = .ok (.aload_n 0, 1) := by decide +kernel
theorem dX8_pressureOf_9 : decode cX8_pressureOf 9 = .ok (.getfield 65, 3) := by decide +kernel
theorem dX8_pressureOf_12 : decode cX8_pressureOf 12 = .ok (.iload_n 1, 1) := by decide +kernel
theorem dX8_pressureOf_13 : decode cX8_pressureOf 13 = .ok (.laload, 1) := by decide +kernel
theorem dX8_pressureOf_14 : decode cX8_pressureOf 14 = .ok (.ldc2_w 306, 3) := by decide +kernel
theorem dX8_pressureOf_17 : decode cX8_pressureOf 17 = .ok (.aload_n 0, 1) := by decide +kernel
theorem dX8_pressureOf_18 : decode cX8_pressureOf 18 = .ok (.getfield 22, 3) := by decide +kernel
theorem dX8_pressureOf_21 : decode cX8_pressureOf 21 = .ok (.iload_n 1, 1) := by decide +kernel
theorem dX8_pressureOf_22 : decode cX8_pressureOf 22 = .ok (.iaload, 1) := by decide +kernel
theorem dX8_pressureOf_23 : decode cX8_pressureOf 23 = .ok (.i2l, 1) := by decide +kernel
theorem dX8_pressureOf_24 : decode cX8_pressureOf 24 = .ok (.lmul, 1) := by decide +kernel
theorem dX8_pressureOf_25 : decode cX8_pressureOf 25 = .ok (.lsub, 1) := by decide +kernel
theorem dX8_pressureOf_26 : decode cX8_pressureOf 26 = .ok (.lreturn, 1) := by decide +kernel
theorem dX8_head_0 : decode cX8_head 0 = .ok (.aload_n 0, 1) := by decide +kernel
theorem dX8_head_1 : decode cX8_head 1 = .ok (.aload_n 0, 1) := by decide +kernel
theorem dX8_head_2 : decode cX8_head 2 = .ok (.iload_n 1, 1) := by decide +kernel
theorem dX8_head_3 : decode cX8_head 3 = .ok (.invokevirtual 327, 3) := by decide +kernel
theorem dX8_head_6 : decode cX8_head 6 = .ok (.invokestatic 330, 3) := by decide +kernel
theorem dX8_head_9 : decode cX8_head 9 = .ok (.invokevirtual 245, 3) := by decide +kernel
theorem dX8_head_12 : decode cX8_head 12 = .ok (.ifCond .eq 7, 3) := by decide +kernel
theorem dX8_head_15 : decode cX8_head 15 = .ok (.ldc2_w 102, 3) := by decide +kernel
theorem dX8_head_18 : decode cX8_head 18 = .ok (.lreturn, 1) := by decide +kernel
theorem dX8_head_19 : decode cX8_head 19 = .ok (.aload_n 0, 1) := by decide +kernel
theorem dX8_head_20 : decode cX8_head 20 = .ok (.iload_n 1, 1) := by decide +kernel
theorem dX8_head_21 : decode cX8_head 21 = .ok (.invokevirtual 272, 3) := by decide +kernel
theorem dX8_head_24 : decode cX8_head 24 = .ok (.ifCond .eq 12, 3) := by decide +kernel
theorem dX8_head_27 : decode cX8_head 27 = .ok (.aload_n 0, 1) := by decide +kernel
theorem dX8_head_28 : decode cX8_head 28 = .ok (.getfield 65, 3) := by decide +kernel
theorem dX8_head_31 : decode cX8_head 31 = .ok (.iload_n 1, 1) := by decide +kernel
theorem dX8_head_32 : decode cX8_head 32 = .ok (.laload, 1) := by decide +kernel
theorem dX8_head_33 : decode cX8_head 33 = .ok (.goto 8, 3) := by decide +kernel
theorem dX8_head_36 : decode cX8_head 36 = .ok (.aload_n 0, 1) := by decide +kernel
theorem dX8_head_37 : decode cX8_head 37 = .ok (.iconst 5, 1) := by decide +kernel
theorem dX8_head_38 : decode cX8_head 38 = .ok (.invokevirtual 407, 3) := by decide +kernel
theorem dX8_head_41 : decode cX8_head 41 = .ok (.lreturn, 1) := by decide +kernel
theorem dX8_pressure_0 : decode cX8_pressure 0 = .ok (.aload_n 0, 1) := by decide +kernel
theorem dX8_pressure_1 : decode cX8_pressure 1 = .ok (.aload_n 0, 1) := by decide +kernel
theorem dX8_pressure_2 : decode cX8_pressure 2 = .ok (.iload_n 1, 1) := by decide +kernel
theorem dX8_pressure_3 : decode cX8_pressure 3 = .ok (.invokevirtual 327, 3) := by decide +kernel
theorem dX8_pressure_6 : decode cX8_pressure 6 = .ok (.invokestatic 330, 3) := by decide +kernel
theorem dX8_pressure_9 : decode cX8_pressure 9 = .ok (.invokevirtual 245, 3) := by decide +kernel
theorem dX8_pressure_12 : decode cX8_pressure 12 = .ok (.ifCond .eq 7, 3) := by decide +kernel
theorem dX8_pressure_15 : decode cX8_pressure 15 = .ok (.ldc2_w 102, 3) := by decide +kernel
theorem dX8_pressure_18 : decode cX8_pressure 18 = .ok (.lreturn, 1) := by decide +kernel
theorem dX8_pressure_19 : decode cX8_pressure 19 = .ok (.aload_n 0, 1) := by decide +kernel
theorem dX8_pressure_20 : decode cX8_pressure 20 = .ok (.iload_n 1, 1) := by decide +kernel
theorem dX8_pressure_21 : decode cX8_pressure 21 = .ok (.invokevirtual 272, 3) := by decide +kernel
theorem dX8_pressure_24 : decode cX8_pressure 24 = .ok (.ifCond .eq 11, 3) := by decide +kernel
theorem dX8_pressure_27 : decode cX8_pressure 27 = .ok (.aload_n 0, 1) := by decide +kernel
theorem dX8_pressure_28 : decode cX8_pressure 28 = .ok (.iload_n 1, 1) := by decide +kernel
theorem dX8_pressure_29 : decode cX8_pressure 29 = .ok (.invokevirtual 410, 3) := by decide +kernel
theorem dX8_pressure_32 : decode cX8_pressure 32 = .ok (.goto 8, 3) := by decide +kernel
theorem dX8_pressure_35 : decode cX8_pressure 35 = .ok (.aload_n 0, 1) := by decide +kernel
theorem dX8_pressure_36 : decode cX8_pressure 36 = .ok (.iconst 5, 1) := by decide +kernel
theorem dX8_pressure_37 : decode cX8_pressure 37 = .ok (.invokevirtual 407, 3) := by decide +kernel
theorem dX8_pressure_40 : decode cX8_pressure 40 = .ok (.lreturn, 1) := by decide +kernel
theorem dX8_weakestNow_0 : decode cX8_weakestNow 0 = .ok (.bipush (-2), 2) := by decide +kernel
theorem dX8_weakestNow_2 : decode cX8_weakestNow 2 = .ok (.istore_n 1, 1) := by decide +kernel
theorem dX8_weakestNow_3 : decode cX8_weakestNow 3 = .ok (.iconst 1, 1) := by decide +kernel
theorem dX8_weakestNow_4 : decode cX8_weakestNow 4 = .ok (.istore_n 2, 1) := by decide +kernel
theorem dX8_weakestNow_5 : decode cX8_weakestNow 5 = .ok (.iload_n 2, 1) := by decide +kernel
theorem dX8_weakestNow_6 : decode cX8_weakestNow 6 = .ok (.aload_n 0, 1) := by decide +kernel
theorem dX8_weakestNow_7 : decode cX8_weakestNow 7 = .ok (.getfield 229, 3) := by decide +kernel
theorem dX8_weakestNow_10 : decode cX8_weakestNow 10 = .ok (.if_icmp .ge 39, 3) := by decide +kernel
theorem dX8_weakestNow_13 : decode cX8_weakestNow 13 = .ok (.aload_n 0, 1) := by decide +kernel
theorem dX8_weakestNow_14 : decode cX8_weakestNow 14 = .ok (.iload_n 2, 1) := by decide +kernel
theorem dX8_weakestNow_15 : decode cX8_weakestNow 15 = .ok (.invokevirtual 272, 3) := by decide +kernel
theorem dX8_weakestNow_18 : decode cX8_weakestNow 18 = .ok (.ifCond .eq 25, 3) := by decide +kernel
theorem dX8_weakestNow_21 : decode cX8_weakestNow 21 = .ok (.iload_n 1, 1) := by decide +kernel
theorem dX8_weakestNow_22 : decode cX8_weakestNow 22 = .ok (.bipush (-2), 2) := by decide +kernel
theorem dX8_weakestNow_24 : decode cX8_weakestNow 24 = .ok (.if_icmp .eq 17, 3) := by decide +kernel
theorem dX8_weakestNow_27 : decode cX8_weakestNow 27 = .ok (.aload_n 0, 1) := by decide +kernel
theorem dX8_weakestNow_28 : decode cX8_weakestNow 28 = .ok (.iload_n 2, 1) := by decide +kernel
theorem dX8_weakestNow_29 : decode cX8_weakestNow 29 = .ok (.invokevirtual 410, 3) := by decide +kernel
theorem dX8_weakestNow_32 : decode cX8_weakestNow 32 = .ok (.aload_n 0, 1) := by decide +kernel
theorem dX8_weakestNow_33 : decode cX8_weakestNow 33 = .ok (.iload_n 1, 1) := by decide +kernel
theorem dX8_weakestNow_34 : decode cX8_weakestNow 34 = .ok (.invokevirtual 410, 3) := by decide +kernel
theorem dX8_weakestNow_37 : decode cX8_weakestNow 37 = .ok (.lcmp, 1) := by decide +kernel
theorem dX8_weakestNow_38 : decode cX8_weakestNow 38 = .ok (.ifCond .ge 5, 3) := by decide +kernel
theorem dX8_weakestNow_41 : decode cX8_weakestNow 41 = .ok (.iload_n 2, 1) := by decide +kernel
theorem dX8_weakestNow_42 : decode cX8_weakestNow 42 = .ok (.istore_n 1, 1) := by decide +kernel
theorem dX8_weakestNow_43 : decode cX8_weakestNow 43 = .ok (.iinc 2 1, 3) := by decide +kernel
theorem dX8_weakestNow_46 : decode cX8_weakestNow 46 = .ok (.goto (-41), 3) := by decide +kernel
theorem dX8_weakestNow_49 : decode cX8_weakestNow 49 = .ok (.iload_n 1, 1) := by decide +kernel
theorem dX8_weakestNow_50 : decode cX8_weakestNow 50 = .ok (.ireturn, 1) := by decide +kernel
theorem dX8_weakest_0 : decode cX8_weakest 0 = .ok (.aload_n 0, 1) := by decide +kernel
theorem dX8_weakest_1 : decode cX8_weakest 1 = .ok (.aload_n 0, 1) := by decide +kernel
theorem dX8_weakest_2 : decode cX8_weakest 2 = .ok (.getfield 229, 3) := by decide +kernel
theorem dX8_weakest_5 : decode cX8_weakest 5 = .ok (.ifCond .le 7, 3) := by decide +kernel
theorem dX8_weakest_8 : decode cX8_weakest 8 = .ok (.iconst 1, 1) := by decide +kernel
theorem dX8_weakest_9 : decode cX8_weakest 9 = .ok (.goto 4, 3) := by decide +kernel
theorem dX8_weakest_12 : decode cX8_weakest 12 = .ok (.iconst 0, 1) := by decide +kernel
theorem dX8_weakest_13 : decode cX8_weakest 13 = .ok (.invokestatic 330, 3) := by decide +kernel
theorem dX8_weakest_16 : decode cX8_weakest 16 = .ok (.invokevirtual 245, 3) := by decide +kernel
theorem dX8_weakest_19 : decode cX8_weakest 19 = .ok (.ifCond .eq 7, 3) := by decide +kernel
theorem dX8_weakest_22 : decode cX8_weakest 22 = .ok (.iconst (-1), 1) := by decide +kernel
theorem dX8_weakest_23 : decode cX8_weakest 23 = .ok (.goto 7, 3) := by decide +kernel
theorem dX8_weakest_26 : decode cX8_weakest 26 = .ok (.aload_n 0, 1) := by decide +kernel
theorem dX8_weakest_27 : decode cX8_weakest 27 = .ok (.invokevirtual 413, 3) := by decide +kernel
theorem dX8_weakest_30 : decode cX8_weakest 30 = .ok (.ireturn, 1) := by decide +kernel
theorem dX8_ring_0 : decode cX8_ring 0 = .ok (.aload_n 0, 1) := by decide +kernel
