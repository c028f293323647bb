theorem dX7_bestToWiden_3 : decode cX7_bestToWiden 3 = .ok (.ldc2_w 254, 3) := by decide +kernel
theorem dX7_bestToWiden_6 : decode cX7_bestToWiden 6 = .ok (.lstore_n 2, 1) := by decide +kernel
theorem dX7_bestToWiden_7 : decode cX7_bestToWiden 7 = .ok (.iconst 0, 1) := by decide +kernel
theorem dX7_bestToWiden_8 : decode cX7_bestToWiden 8 = .ok (.istore 4, 2) := by decide +kernel
theorem dX7_bestToWiden_10 : decode cX7_bestToWiden 10 = .ok (.iload 4, 2) := by decide +kernel
theorem dX7_bestToWiden_12 : decode cX7_bestToWiden 12 = .ok (.aload_n 0, 1) := by decide +kernel
theorem dX7_bestToWiden_13 : decode cX7_bestToWiden 13 = .ok (.getfield 37, 3) := by decide +kernel
theorem dX7_bestToWiden_16 : decode cX7_bestToWiden 16 = .ok (.getfield 105, 3) := by decide +kernel
theorem dX7_bestToWiden_19 : decode cX7_bestToWiden 19 = .ok (.if_icmp .ge 77, 3) := by decide +kernel
theorem dX7_bestToWiden_22 : decode cX7_bestToWiden 22 = .ok (.aload_n 0, 1) := by decide +kernel
theorem dX7_bestToWiden_23 : decode cX7_bestToWiden 23 = .ok (.getfield 37, 3) := by decide +kernel
theorem dX7_bestToWiden_26 : decode cX7_bestToWiden 26 = .ok (.getfield 148, 3) := by decide +kernel
theorem dX7_bestToWiden_29 : decode cX7_bestToWiden 29 = .ok (.iload 4, 2) := by decide +kernel
theorem dX7_bestToWiden_31 : decode cX7_bestToWiden 31 = .ok (.iaload, 1) := by decide +kernel
theorem dX7_bestToWiden_32 : decode cX7_bestToWiden 32 = .ok (.iconst 2, 1) := by decide +kernel
theorem dX7_bestToWiden_33 : decode cX7_bestToWiden 33 = .ok (.if_icmp .eq 57, 3) := by decide +kernel
theorem dX7_bestToWiden_36 : decode cX7_bestToWiden 36 = .ok (.aload_n 0, 1) := by decide +kernel
theorem dX7_bestToWiden_37 : decode cX7_bestToWiden 37 = .ok (.getfield 37, 3) := by decide +kernel
theorem dX7_bestToWiden_40 : decode cX7_bestToWiden 40 = .ok (.getfield 151, 3) := by decide +kernel
theorem dX7_bestToWiden_43 : decode cX7_bestToWiden 43 = .ok (.iload 4, 2) := by decide +kernel
theorem dX7_bestToWiden_45 : decode cX7_bestToWiden 45 = .ok (.iaload, 1) := by decide +kernel
theorem dX7_bestToWiden_46 : decode cX7_bestToWiden 46 = .ok (.iconst 1, 1) := by decide +kernel
theorem dX7_bestToWiden_47 : decode cX7_bestToWiden 47 = .ok (.if_icmp .le 43, 3) := by decide +kernel
theorem dX7_bestToWiden_50 : decode cX7_bestToWiden 50 = .ok (.aload_n 0, 1) := by decide +kernel
theorem dX7_bestToWiden_51 : decode cX7_bestToWiden 51 = .ok (.getfield 37, 3) := by decide +kernel
theorem dX7_bestToWiden_54 : decode cX7_bestToWiden 54 = .ok (.getfield 154, 3) := by decide +kernel
theorem dX7_bestToWiden_57 : decode cX7_bestToWiden 57 = .ok (.iload 4, 2) := by decide +kernel
theorem dX7_bestToWiden_59 : decode cX7_bestToWiden 59 = .ok (.invokestatic 157, 3) := by decide +kernel
theorem dX7_bestToWiden_62 : decode cX7_bestToWiden 62 = .ok (.iconst 1, 1) := by decide +kernel
theorem dX7_bestToWiden_63 : decode cX7_bestToWiden 63 = .ok (.if_icmp .ne 6, 3) := by decide +kernel
theorem dX7_bestToWiden_66 : decode cX7_bestToWiden 66 = .ok (.goto 24, 3) := by decide +kernel
theorem dX7_bestToWiden_69 : decode cX7_bestToWiden 69 = .ok (.aload_n 0, 1) := by decide +kernel
theorem dX7_bestToWiden_70 : decode cX7_bestToWiden 70 = .ok (.iload 4, 2) := by decide +kernel
theorem dX7_bestToWiden_72 : decode cX7_bestToWiden 72 = .ok (.invokevirtual 272, 3) := by decide +kernel
theorem dX7_bestToWiden_75 : decode cX7_bestToWiden 75 = .ok (.lstore 5, 2) := by decide +kernel
theorem dX7_bestToWiden_77 : decode cX7_bestToWiden 77 = .ok (.lload 5, 2) := by decide +kernel
theorem dX7_bestToWiden_79 : decode cX7_bestToWiden 79 = .ok (.lload_n 2, 1) := by decide +kernel
theorem dX7_bestToWiden_80 : decode cX7_bestToWiden 80 = .ok (.lcmp, 1) := by decide +kernel
theorem dX7_bestToWiden_81 : decode cX7_bestToWiden 81 = .ok (.ifCond .le 9, 3) := by decide +kernel
theorem dX7_bestToWiden_84 : decode cX7_bestToWiden 84 = .ok (.lload 5, 2) := by decide +kernel
theorem dX7_bestToWiden_86 : decode cX7_bestToWiden 86 = .ok (.lstore_n 2, 1) := by decide +kernel
theorem dX7_bestToWiden_87 : decode cX7_bestToWiden 87 = .ok (.iload 4, 2) := by decide +kernel
theorem dX7_bestToWiden_89 : decode cX7_bestToWiden 89 = .ok (.istore_n 1, 1) := by decide +kernel
theorem dX7_bestToWiden_90 : decode cX7_bestToWiden 90 = .ok (.iinc 4 1, 3) := by decide +kernel
theorem dX7_bestToWiden_93 : decode cX7_bestToWiden 93 = .ok (.goto (-83), 3) := by decide +kernel
theorem dX7_bestToWiden_96 : decode cX7_bestToWiden 96 = .ok (.iload_n 1, 1) := by decide +kernel
theorem dX7_bestToWiden_97 : decode cX7_bestToWiden 97 = .ok (.ireturn, 1) := by decide +kernel
theorem dX7_leastIfWidened_0 : decode cX7_leastIfWidened 0 = .ok (.aload_n 0, 1) := by decide +kernel
theorem dX7_leastIfWidened_1 : decode cX7_leastIfWidened 1 = .ok (.getfield 41, 3) := by decide +kernel
theorem dX7_leastIfWidened_4 : decode cX7_leastIfWidened 4 = .ok (.aload_n 0, 1) := by decide +kernel
theorem dX7_leastIfWidened_5 : decode cX7_leastIfWidened 5 = .ok (.getfield 37, 3) := by decide +kernel
theorem dX7_leastIfWidened_8 : decode cX7_leastIfWidened 8 = .ok (.invokevirtual 83, 3) := by decide +kernel
theorem dX7_leastIfWidened_11 : decode cX7_leastIfWidened 11 = .ok (.aload_n 0, 1) := by decide +kernel
theorem dX7_leastIfWidened_12 : decode cX7_leastIfWidened 12 = .ok (.getfield 41, 3) := by decide +kernel
theorem dX7_leastIfWidened_15 : decode cX7_leastIfWidened 15 = .ok (.getfield 151, 3) := by decide +kernel
theorem dX7_leastIfWidened_18 : decode cX7_leastIfWidened 18 = .ok (.iload_n 1, 1) := by decide +kernel
theorem dX7_leastIfWidened_19 : decode cX7_leastIfWidened 19 = .ok (.dup2, 1) := by decide +kernel
theorem dX7_leastIfWidened_20 : decode cX7_leastIfWidened 20 = .ok (.iaload, 1) := by decide +kernel
theorem dX7_leastIfWidened_21 : decode cX7_leastIfWidened 21 = .ok (.iconst 1, 1) := by decide +kernel
theorem dX7_leastIfWidened_22 : decode cX7_leastIfWidened 22 = .ok (.isub, 1) := by decide +kernel
theorem dX7_leastIfWidened_23 : decode cX7_leastIfWidened 23 = .ok (.iastore, 1) := by decide +kernel
theorem dX7_leastIfWidened_24 : decode cX7_leastIfWidened 24 = .ok (.aload_n 0, 1) := by decide +kernel
theorem dX7_leastIfWidened_25 : decode cX7_leastIfWidened 25 = .ok (.getfield 38, 3) := by decide +kernel
theorem dX7_leastIfWidened_28 : decode cX7_leastIfWidened 28 = .ok (.invokevirtual 248, 3) := by decide +kernel
theorem dX7_leastIfWidened_31 : decode cX7_leastIfWidened 31 = .ok (.aload_n 0, 1) := by decide +kernel
theorem dX7_leastIfWidened_32 : decode cX7_leastIfWidened 32 = .ok (.getfield 38, 3) := by decide +kernel
theorem dX7_leastIfWidened_35 : decode cX7_leastIfWidened 35 = .ok (.invokevirtual 332, 3) := by decide +kernel
theorem dX7_leastIfWidened_38 : decode cX7_leastIfWidened 38 = .ok (.lreturn, 1) := by decide +kernel
theorem dX7_findLeak_0 : decode cX7_findLeak 0 = .ok (.aload_n 0, 1) := by decide +kernel
theorem dX7_findLeak_1 : decode cX7_findLeak 1 = .ok (.getfield 54, 3) := by decide +kernel
theorem dX7_findLeak_4 : decode cX7_findLeak 4 = .ok (.ldc2_w 335, 3) := by decide +kernel
theorem dX7_findLeak_7 : decode cX7_findLeak 7 = .ok (.putfield 296, 3) := by decide +kernel
theorem dX7_findLeak_10 : decode cX7_findLeak 10 = .ok (.iconst 1, 1) := by decide +kernel
theorem dX7_findLeak_11 : decode cX7_findLeak 11 = .ok (.istore_n 1, 1) := by decide +kernel
theorem dX7_findLeak_12 : decode cX7_findLeak 12 = .ok (.iload_n 1, 1) := by decide +kernel
theorem dX7_findLeak_13 : decode cX7_findLeak 13 = .ok (.aload_n 0, 1) := by decide +kernel
theorem dX7_findLeak_14 : decode cX7_findLeak 14 = .ok (.getfield 37, 3) := by decide +kernel
theorem dX7_findLeak_17 : decode cX7_findLeak 17 = .ok (.getfield 98, 3) := by decide +kernel
theorem dX7_findLeak_20 : decode cX7_findLeak 20 = .ok (.if_icmp .ge 49, 3) := by decide +kernel
theorem dX7_findLeak_23 : decode cX7_findLeak 23 = .ok (.iconst 1, 1) := by decide +kernel
theorem dX7_findLeak_24 : decode cX7_findLeak 24 = .ok (.istore_n 2, 1) := by decide +kernel
theorem dX7_findLeak_25 : decode cX7_findLeak 25 = .ok (.iload_n 2, 1) := by decide +kernel
theorem dX7_findLeak_26 : decode cX7_findLeak 26 = .ok (.bipush 40, 2) := by decide +kernel
theorem dX7_findLeak_28 : decode cX7_findLeak 28 = .ok (.if_icmp .gt 35, 3) := by decide +kernel
theorem dX7_findLeak_31 : decode cX7_findLeak 31 = .ok (.aload_n 0, 1) := by decide +kernel
theorem dX7_findLeak_32 : decode cX7_findLeak 32 = .ok (.iload_n 1, 1) := by decide +kernel
theorem dX7_findLeak_33 : decode cX7_findLeak 33 = .ok (.iload_n 2, 1) := by decide +kernel
theorem dX7_findLeak_34 : decode cX7_findLeak 34 = .ok (.invokevirtual 265, 3) := by decide +kernel
theorem dX7_findLeak_37 : decode cX7_findLeak 37 = .ok (.aload_n 0, 1) := by decide +kernel
theorem dX7_findLeak_38 : decode cX7_findLeak 38 = .ok (.getfield 54, 3) := by decide +kernel
theorem dX7_findLeak_41 : decode cX7_findLeak 41 = .ok (.iload_n 1, 1) := by decide +kernel
theorem dX7_findLeak_42 : decode cX7_findLeak 42 = .ok (.iload_n 2, 1) := by decide +kernel
theorem dX7_findLeak_43 : decode cX7_findLeak 43 = .ok (.aload_n 0, 1) := by decide +kernel
theorem dX7_findLeak_44 : decode cX7_findLeak 44 = .ok (.getfield 54, 3) := by decide +kernel
theorem dX7_findLeak_47 : decode cX7_findLeak 47 = .ok (.aload_n 0, 1) := by decide +kernel
theorem dX7_findLeak_48 : decode cX7_findLeak 48 = .ok (.getfield 38, 3) := by decide +kernel
theorem dX7_findLeak_51 : decode cX7_findLeak 51 = .ok (.invokevirtual 280, 3) := by decide +kernel
theorem dX7_findLeak_54 : decode cX7_findLeak 54 = .ok (.invokevirtual 337, 3) := by decide +kernel
theorem dX7_findLeak_57 : decode cX7_findLeak 57 = .ok (.iinc 2 1, 3) := by decide +kernel
theorem dX7_findLeak_60 : decode cX7_findLeak 60 = .ok (.goto (-35), 3) := by decide +kernel
theorem dX7_findLeak_63 : decode cX7_findLeak 63 = .ok (.iinc 1 1, 3) := by decide +kernel
theorem dX7_findLeak_66 : decode cX7_findLeak 66 = .ok (.goto (-54), 3) := by decide +kernel
theorem dX7_findLeak_69 : decode cX7_findLeak 69 = .ok (.aload_n 0, 1) := by decide +kernel
theorem dX7_findLeak_70 : decode cX7_findLeak 70 = .ok (.getfield 54, 3) := by decide +kernel
theorem dX7_findLeak_73 : decode cX7_findLeak 73 = .ok (.iconst 1, 1) := by decide +kernel
theorem dX7_findLeak_74 : decode cX7_findLeak 74 = .ok (.putfield 284, 3) := by decide +kernel
theorem dX7_findLeak_77 : decode cX7_findLeak 77 = .ok (.return_, 1) := by decide +kernel
