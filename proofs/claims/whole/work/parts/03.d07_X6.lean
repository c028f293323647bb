theorem dX6_init_0 : decode cX6_init 0 = .ok (.aload_n 0, 1) := by decide +kernel
theorem dX6_init_1 : decode cX6_init 1 = .ok (.invokespecial 3, 3) := by decide +kernel
theorem dX6_init_4 : decode cX6_init 4 = .ok (.aload_n 0, 1) := by decide +kernel
theorem dX6_init_5 : decode cX6_init 5 = .ok (.new 9, 3) := by decide +kernel
theorem dX6_init_8 : decode cX6_init 8 = .ok (.dup, 1) := by decide +kernel
theorem dX6_init_9 : decode cX6_init 9 = .ok (.invokespecial 11, 3) := by decide +kernel
theorem dX6_init_12 : decode cX6_init 12 = .ok (.putfield 12, 3) := by decide +kernel
theorem dX6_init_15 : decode cX6_init 15 = .ok (.aload_n 0, 1) := by decide +kernel
theorem dX6_init_16 : decode cX6_init 16 = .ok (.new 18, 3) := by decide +kernel
theorem dX6_init_19 : decode cX6_init 19 = .ok (.dup, 1) := by decide +kernel
theorem dX6_init_20 : decode cX6_init 20 = .ok (.invokespecial 20, 3) := by decide +kernel
theorem dX6_init_23 : decode cX6_init 23 = .ok (.putfield 21, 3) := by decide +kernel
theorem dX6_init_26 : decode cX6_init 26 = .ok (.aload_n 0, 1) := by decide +kernel
theorem dX6_init_27 : decode cX6_init 27 = .ok (.new 25, 3) := by decide +kernel
theorem dX6_init_30 : decode cX6_init 30 = .ok (.dup, 1) := by decide +kernel
theorem dX6_init_31 : decode cX6_init 31 = .ok (.invokespecial 27, 3) := by decide +kernel
theorem dX6_init_34 : decode cX6_init 34 = .ok (.putfield 28, 3) := by decide +kernel
theorem dX6_init_37 : decode cX6_init 37 = .ok (.aload_n 0, 1) := by decide +kernel
theorem dX6_init_38 : decode cX6_init 38 = .ok (.bipush 14, 2) := by decide +kernel
theorem dX6_init_40 : decode cX6_init 40 = .ok (.newarray .long, 2) := by decide +kernel
theorem dX6_init_42 : decode cX6_init 42 = .ok (.putfield 32, 3) := by decide +kernel
theorem dX6_init_45 : decode cX6_init 45 = .ok (.aload_n 0, 1) := by decide +kernel
theorem dX6_init_46 : decode cX6_init 46 = .ok (.bipush 9, 2) := by decide +kernel
theorem dX6_init_48 : decode cX6_init 48 = .ok (.newarray .long, 2) := by decide +kernel
theorem dX6_init_50 : decode cX6_init 50 = .ok (.putfield 36, 3) := by decide +kernel
theorem dX6_init_53 : decode cX6_init 53 = .ok (.aload_n 0, 1) := by decide +kernel
theorem dX6_init_54 : decode cX6_init 54 = .ok (.bipush 9, 2) := by decide +kernel
theorem dX6_init_56 : decode cX6_init 56 = .ok (.newarray .long, 2) := by decide +kernel
theorem dX6_init_58 : decode cX6_init 58 = .ok (.putfield 39, 3) := by decide +kernel
theorem dX6_init_61 : decode cX6_init 61 = .ok (.aload_n 0, 1) := by decide +kernel
theorem dX6_init_62 : decode cX6_init 62 = .ok (.bipush 14, 2) := by decide +kernel
theorem dX6_init_64 : decode cX6_init 64 = .ok (.newarray .long, 2) := by decide +kernel
theorem dX6_init_66 : decode cX6_init 66 = .ok (.putfield 42, 3) := by decide +kernel
theorem dX6_init_69 : decode cX6_init 69 = .ok (.aload_n 0, 1) := by decide +kernel
theorem dX6_init_70 : decode cX6_init 70 = .ok (.bipush 21, 2) := by decide +kernel
theorem dX6_init_72 : decode cX6_init 72 = .ok (.newarray .int, 2) := by decide +kernel
theorem dX6_init_74 : decode cX6_init 74 = .ok (.putfield 45, 3) := by decide +kernel
theorem dX6_init_77 : decode cX6_init 77 = .ok (.return_, 1) := by decide +kernel
theorem dX6_solve_0 : decode cX6_solve 0 = .ok (.aload_n 0, 1) := by decide +kernel
theorem dX6_solve_1 : decode cX6_solve 1 = .ok (.iconst 0, 1) := by decide +kernel
theorem dX6_solve_2 : decode cX6_solve 2 = .ok (.putfield 49, 3) := by decide +kernel
theorem dX6_solve_5 : decode cX6_solve 5 = .ok (.aload_n 0, 1) := by decide +kernel
theorem dX6_solve_6 : decode cX6_solve 6 = .ok (.iconst 0, 1) := by decide +kernel
theorem dX6_solve_7 : decode cX6_solve 7 = .ok (.putfield 53, 3) := by decide +kernel
theorem dX6_solve_10 : decode cX6_solve 10 = .ok (.aload_n 0, 1) := by decide +kernel
theorem dX6_solve_11 : decode cX6_solve 11 = .ok (.iconst 0, 1) := by decide +kernel
theorem dX6_solve_12 : decode cX6_solve 12 = .ok (.putfield 56, 3) := by decide +kernel
theorem dX6_solve_15 : decode cX6_solve 15 = .ok (.aload_n 0, 1) := by decide +kernel
theorem dX6_solve_16 : decode cX6_solve 16 = .ok (.getfield 45, 3) := by decide +kernel
theorem dX6_solve_19 : decode cX6_solve 19 = .ok (.iconst (-1), 1) := by decide +kernel
theorem dX6_solve_20 : decode cX6_solve 20 = .ok (.invokestatic 60, 3) := by decide +kernel
theorem dX6_solve_23 : decode cX6_solve 23 = .ok (.aload_n 0, 1) := by decide +kernel
theorem dX6_solve_24 : decode cX6_solve 24 = .ok (.getfield 56, 3) := by decide +kernel
theorem dX6_solve_27 : decode cX6_solve 27 = .ok (.ifCond .ne 104, 3) := by decide +kernel
theorem dX6_solve_30 : decode cX6_solve 30 = .ok (.aload_n 0, 1) := by decide +kernel
theorem dX6_solve_31 : decode cX6_solve 31 = .ok (.getfield 53, 3) := by decide +kernel
theorem dX6_solve_34 : decode cX6_solve 34 = .ok (.bipush 20, 2) := by decide +kernel
theorem dX6_solve_36 : decode cX6_solve 36 = .ok (.if_icmp .ge 95, 3) := by decide +kernel
theorem dX6_solve_39 : decode cX6_solve 39 = .ok (.aload_n 0, 1) := by decide +kernel
theorem dX6_solve_40 : decode cX6_solve 40 = .ok (.dup, 1) := by decide +kernel
theorem dX6_solve_41 : decode cX6_solve 41 = .ok (.getfield 53, 3) := by decide +kernel
theorem dX6_solve_44 : decode cX6_solve 44 = .ok (.iconst 1, 1) := by decide +kernel
theorem dX6_solve_45 : decode cX6_solve 45 = .ok (.iadd, 1) := by decide +kernel
theorem dX6_solve_46 : decode cX6_solve 46 = .ok (.putfield 53, 3) := by decide +kernel
theorem dX6_solve_49 : decode cX6_solve 49 = .ok (.aload_n 0, 1) := by decide +kernel
theorem dX6_solve_50 : decode cX6_solve 50 = .ok (.getfield 45, 3) := by decide +kernel
theorem dX6_solve_53 : decode cX6_solve 53 = .ok (.aload_n 0, 1) := by decide +kernel
theorem dX6_solve_54 : decode cX6_solve 54 = .ok (.getfield 53, 3) := by decide +kernel
theorem dX6_solve_57 : decode cX6_solve 57 = .ok (.aload_n 0, 1) := by decide +kernel
theorem dX6_solve_58 : decode cX6_solve 58 = .ok (.getfield 49, 3) := by decide +kernel
theorem dX6_solve_61 : decode cX6_solve 61 = .ok (.iastore, 1) := by decide +kernel
theorem dX6_solve_62 : decode cX6_solve 62 = .ok (.aload_n 0, 1) := by decide +kernel
theorem dX6_solve_63 : decode cX6_solve 63 = .ok (.invokevirtual 66, 3) := by decide +kernel
theorem dX6_solve_66 : decode cX6_solve 66 = .ok (.aload_n 0, 1) := by decide +kernel
theorem dX6_solve_67 : decode cX6_solve 67 = .ok (.bipush 60, 2) := by decide +kernel
theorem dX6_solve_69 : decode cX6_solve 69 = .ok (.invokevirtual 69, 3) := by decide +kernel
theorem dX6_solve_72 : decode cX6_solve 72 = .ok (.aload_n 0, 1) := by decide +kernel
theorem dX6_solve_73 : decode cX6_solve 73 = .ok (.invokevirtual 73, 3) := by decide +kernel
theorem dX6_solve_76 : decode cX6_solve 76 = .ok (.aload_n 0, 1) := by decide +kernel
theorem dX6_solve_77 : decode cX6_solve 77 = .ok (.invokevirtual 76, 3) := by decide +kernel
theorem dX6_solve_80 : decode cX6_solve 80 = .ok (.istore_n 1, 1) := by decide +kernel
theorem dX6_solve_81 : decode cX6_solve 81 = .ok (.iload_n 1, 1) := by decide +kernel
theorem dX6_solve_82 : decode cX6_solve 82 = .ok (.iconst (-1), 1) := by decide +kernel
theorem dX6_solve_83 : decode cX6_solve 83 = .ok (.if_icmp .ne 11, 3) := by decide +kernel
theorem dX6_solve_86 : decode cX6_solve 86 = .ok (.aload_n 0, 1) := by decide +kernel
theorem dX6_solve_87 : decode cX6_solve 87 = .ok (.iconst 1, 1) := by decide +kernel
theorem dX6_solve_88 : decode cX6_solve 88 = .ok (.putfield 56, 3) := by decide +kernel
theorem dX6_solve_91 : decode cX6_solve 91 = .ok (.goto 37, 3) := by decide +kernel
theorem dX6_solve_94 : decode cX6_solve 94 = .ok (.aload_n 0, 1) := by decide +kernel
theorem dX6_solve_95 : decode cX6_solve 95 = .ok (.getfield 53, 3) := by decide +kernel
theorem dX6_solve_98 : decode cX6_solve 98 = .ok (.bipush 20, 2) := by decide +kernel
theorem dX6_solve_100 : decode cX6_solve 100 = .ok (.if_icmp .ge 28, 3) := by decide +kernel
theorem dX6_solve_103 : decode cX6_solve 103 = .ok (.aload_n 0, 1) := by decide +kernel
theorem dX6_solve_104 : decode cX6_solve 104 = .ok (.dup, 1) := by decide +kernel
theorem dX6_solve_105 : decode cX6_solve 105 = .ok (.getfield 49, 3) := by decide +kernel
theorem dX6_solve_108 : decode cX6_solve 108 = .ok (.iconst 1, 1) := by decide +kernel
theorem dX6_solve_109 : decode cX6_solve 109 = .ok (.iload_n 1, 1) := by decide +kernel
theorem dX6_solve_110 : decode cX6_solve 110 = .ok (.ishl, 1) := by decide +kernel
theorem dX6_solve_111 : decode cX6_solve 111 = .ok (.ixor, 1) := by decide +kernel
theorem dX6_solve_112 : decode cX6_solve 112 = .ok (.putfield 49, 3) := by decide +kernel
theorem dX6_solve_115 : decode cX6_solve 115 = .ok (.aload_n 0, 1) := by decide +kernel
theorem dX6_solve_116 : decode cX6_solve 116 = .ok (.dup, 1) := by decide +kernel
theorem dX6_solve_117 : decode cX6_solve 117 = .ok (.getfield 53, 3) := by decide +kernel
theorem dX6_solve_120 : decode cX6_solve 120 = .ok (.aload_n 0, 1) := by decide +kernel
theorem dX6_solve_121 : decode cX6_solve 121 = .ok (.invokevirtual 80, 3) := by decide +kernel
theorem dX6_solve_124 : decode cX6_solve 124 = .ok (.iadd, 1) := by decide +kernel
theorem dX6_solve_125 : decode cX6_solve 125 = .ok (.putfield 53, 3) := by decide +kernel
theorem dX6_solve_128 : decode cX6_solve 128 = .ok (.goto (-105), 3) := by decide +kernel
theorem dX6_solve_131 : decode cX6_solve 131 = .ok (.return_, 1) := by decide +kernel
theorem dX6_roundsToLeaveOut_0 : decode cX6_roundsToLeaveOut 0 = .ok (.iconst 1, 1) := by decide +kernel
theorem dX6_roundsToLeaveOut_1 : decode cX6_roundsToLeaveOut 1 = .ok (.istore_n 1, 1) := by decide +kernel
theorem dX6_roundsToLeaveOut_2 : decode cX6_roundsToLeaveOut 2 = .ok (.iload_n 1, 1) := by decide +kernel
theorem dX6_roundsToLeaveOut_3 : decode cX6_roundsToLeaveOut 3 = .ok (.aload_n 0, 1) := by decide +kernel
theorem dX6_roundsToLeaveOut_4 : decode cX6_roundsToLeaveOut 4 = .ok (.getfield 53, 3) := by decide +kernel
theorem dX6_roundsToLeaveOut_7 : decode cX6_roundsToLeaveOut 7 = .ok (.if_icmp .gt 49, 3) := by decide +kernel
theorem dX6_roundsToLeaveOut_10 : decode cX6_roundsToLeaveOut 10 = .ok (.aload_n 0, 1) := by decide +kernel
theorem dX6_roundsToLeaveOut_11 : decode cX6_roundsToLeaveOut 11 = .ok (.getfield 53, 3) := by decide +kernel
theorem dX6_roundsToLeaveOut_14 : decode cX6_roundsToLeaveOut 14 = .ok (.iconst 1, 1) := by decide +kernel
theorem dX6_roundsToLeaveOut_15 : decode cX6_roundsToLeaveOut 15 = .ok (.iadd, 1) := by decide +kernel
theorem dX6_roundsToLeaveOut_16 : decode cX6_roundsToLeaveOut 16 = .ok (.iload_n 1, 1) := by decide +kernel
theorem dX6_roundsToLeaveOut_17 : decode cX6_roundsToLeaveOut 17 = .ok (.isub, 1) := by decide +kernel
theorem dX6_roundsToLeaveOut_18 : decode cX6_roundsToLeaveOut 18 = .ok (.istore_n 2, 1) := by decide +kernel
theorem dX6_roundsToLeaveOut_19 : decode cX6_roundsToLeaveOut 19 = .ok (.aload_n 0, 1) := by decide +kernel
theorem dX6_roundsToLeaveOut_20 : decode cX6_roundsToLeaveOut 20 = .ok (.getfield 45, 3) := by decide +kernel
theorem dX6_roundsToLeaveOut_23 : decode cX6_roundsToLeaveOut 23 = .ok (.iload_n 1, 1) := by decide +kernel
theorem dX6_roundsToLeaveOut_24 : decode cX6_roundsToLeaveOut 24 = .ok (.iaload, 1) := by decide +kernel
theorem dX6_roundsToLeaveOut_25 : decode cX6_roundsToLeaveOut 25 = .ok (.aload_n 0, 1) := by decide +kernel
theorem dX6_roundsToLeaveOut_26 : decode cX6_roundsToLeaveOut 26 = .ok (.getfield 49, 3) := by decide +kernel
theorem dX6_roundsToLeaveOut_29 : decode cX6_roundsToLeaveOut 29 = .ok (.if_icmp .ne 21, 3) := by decide +kernel
theorem dX6_roundsToLeaveOut_32 : decode cX6_roundsToLeaveOut 32 = .ok (.iload_n 2, 1) := by decide +kernel
theorem dX6_roundsToLeaveOut_33 : decode cX6_roundsToLeaveOut 33 = .ok (.ifCond .le 17, 3) := by decide +kernel
theorem dX6_roundsToLeaveOut_36 : decode cX6_roundsToLeaveOut 36 = .ok (.bipush 20, 2) := by decide +kernel
theorem dX6_roundsToLeaveOut_38 : decode cX6_roundsToLeaveOut 38 = .ok (.aload_n 0, 1) := by decide +kernel
theorem dX6_roundsToLeaveOut_39 : decode cX6_roundsToLeaveOut 39 = .ok (.getfield 53, 3) := by decide +kernel
theorem dX6_roundsToLeaveOut_42 : decode cX6_roundsToLeaveOut 42 = .ok (.isub, 1) := by decide +kernel
theorem dX6_roundsToLeaveOut_43 : decode cX6_roundsToLeaveOut 43 = .ok (.iconst 1, 1) := by decide +kernel
theorem dX6_roundsToLeaveOut_44 : decode cX6_roundsToLeaveOut 44 = .ok (.isub, 1) := by decide +kernel
theorem dX6_roundsToLeaveOut_45 : decode cX6_roundsToLeaveOut 45 = .ok (.iload_n 2, 1) := by decide +kernel
theorem dX6_roundsToLeaveOut_46 : decode cX6_roundsToLeaveOut 46 = .ok (.idiv, 1) := by decide +kernel
theorem dX6_roundsToLeaveOut_47 : decode cX6_roundsToLeaveOut 47 = .ok (.iload_n 2, 1) := by decide +kernel
theorem dX6_roundsToLeaveOut_48 : decode cX6_roundsToLeaveOut 48 = .ok (.imul, 1) := by decide +kernel
theorem dX6_roundsToLeaveOut_49 : decode cX6_roundsToLeaveOut 49 = .ok (.ireturn, 1) := by decide +kernel
theorem dX6_roundsToLeaveOut_50 : decode cX6_roundsToLeaveOut 50 = .ok (.iinc 1 1, 3) := by decide +kernel
theorem dX6_roundsToLeaveOut_53 : decode cX6_roundsToLeaveOut 53 = .ok (.goto (-51), 3) := by decide +kernel
theorem dX6_roundsToLeaveOut_56 : decode cX6_roundsToLeaveOut 56 = .ok (.iconst 0, 1) := by decide +kernel
theorem dX6_roundsToLeaveOut_57 : decode cX6_roundsToLeaveOut 57 = .ok (.ireturn, 1) := by decide +kernel
theorem dX6_sweepFirstRound_0 : decode cX6_sweepFirstRound 0 = .ok (.aload_n 0, 1) := by decide +kernel
theorem dX6_sweepFirstRound_1 : decode cX6_sweepFirstRound 1 = .ok (.iconst 0, 1) := by decide +kernel
theorem dX6_sweepFirstRound_2 : decode cX6_sweepFirstRound 2 = .ok (.putfield 49, 3) := by decide +kernel
theorem dX6_sweepFirstRound_5 : decode cX6_sweepFirstRound 5 = .ok (.aload_n 0, 1) := by decide +kernel
theorem dX6_sweepFirstRound_6 : decode cX6_sweepFirstRound 6 = .ok (.invokevirtual 66, 3) := by decide +kernel
theorem dX6_sweepFirstRound_9 : decode cX6_sweepFirstRound 9 = .ok (.aload_n 0, 1) := by decide +kernel
theorem dX6_sweepFirstRound_10 : decode cX6_sweepFirstRound 10 = .ok (.iload_n 1, 1) := by decide +kernel
theorem dX6_sweepFirstRound_11 : decode cX6_sweepFirstRound 11 = .ok (.invokevirtual 69, 3) := by decide +kernel
theorem dX6_sweepFirstRound_14 : decode cX6_sweepFirstRound 14 = .ok (.return_, 1) := by decide +kernel
theorem dX6_beginRound_0 : decode cX6_beginRound 0 = .ok (.iconst 1, 1) := by decide +kernel
theorem dX6_beginRound_1 : decode cX6_beginRound 1 = .ok (.aload_n 0, 1) := by decide +kernel
theorem dX6_beginRound_2 : decode cX6_beginRound 2 = .ok (.getfield 12, 3) := by decide +kernel
theorem dX6_beginRound_5 : decode cX6_beginRound 5 = .ok (.getfield 83, 3) := by decide +kernel
theorem dX6_beginRound_8 : decode cX6_beginRound 8 = .ok (.ishl, 1) := by decide +kernel
theorem dX6_beginRound_9 : decode cX6_beginRound 9 = .ok (.iconst 1, 1) := by decide +kernel
theorem dX6_beginRound_10 : decode cX6_beginRound 10 = .ok (.isub, 1) := by decide +kernel
theorem dX6_beginRound_11 : decode cX6_beginRound 11 = .ok (.aload_n 0, 1) := by decide +kernel
theorem dX6_beginRound_12 : decode cX6_beginRound 12 = .ok (.getfield 12, 3) := by decide +kernel
theorem dX6_beginRound_15 : decode cX6_beginRound 15 = .ok (.getfield 86, 3) := by decide +kernel
theorem dX6_beginRound_18 : decode cX6_beginRound 18 = .ok (.iconst (-1), 1) := by decide +kernel
theorem dX6_beginRound_19 : decode cX6_beginRound 19 = .ok (.ixor, 1) := by decide +kernel
theorem dX6_beginRound_20 : decode cX6_beginRound 20 = .ok (.iand, 1) := by decide +kernel
theorem dX6_beginRound_21 : decode cX6_beginRound 21 = .ok (.aload_n 0, 1) := by decide +kernel
theorem dX6_beginRound_22 : decode cX6_beginRound 22 = .ok (.getfield 49, 3) := by decide +kernel
theorem dX6_beginRound_25 : decode cX6_beginRound 25 = .ok (.iconst (-1), 1) := by decide +kernel
theorem dX6_beginRound_26 : decode cX6_beginRound 26 = .ok (.ixor, 1) := by decide +kernel
theorem dX6_beginRound_27 : decode cX6_beginRound 27 = .ok (.iand, 1) := by decide +kernel
theorem dX6_beginRound_28 : decode cX6_beginRound 28 = .ok (.istore_n 1, 1) := by decide +kernel
theorem dX6_beginRound_29 : decode cX6_beginRound 29 = .ok (.aload_n 0, 1) := by decide +kernel
theorem dX6_beginRound_30 : decode cX6_beginRound 30 = .ok (.getfield 21, 3) := by decide +kernel
theorem dX6_beginRound_33 : decode cX6_beginRound 33 = .ok (.aload_n 0, 1) := by decide +kernel
theorem dX6_beginRound_34 : decode cX6_beginRound 34 = .ok (.getfield 12, 3) := by decide +kernel
theorem dX6_beginRound_37 : decode cX6_beginRound 37 = .ok (.iload_n 1, 1) := by decide +kernel
theorem dX6_beginRound_38 : decode cX6_beginRound 38 = .ok (.invokevirtual 89, 3) := by decide +kernel
theorem dX6_beginRound_41 : decode cX6_beginRound 41 = .ok (.aload_n 0, 1) := by decide +kernel
theorem dX6_beginRound_42 : decode cX6_beginRound 42 = .ok (.getfield 28, 3) := by decide +kernel
theorem dX6_beginRound_45 : decode cX6_beginRound 45 = .ok (.aload_n 0, 1) := by decide +kernel
theorem dX6_beginRound_46 : decode cX6_beginRound 46 = .ok (.getfield 12, 3) := by decide +kernel
theorem dX6_beginRound_49 : decode cX6_beginRound 49 = .ok (.aload_n 0, 1) := by decide +kernel
theorem dX6_beginRound_50 : decode cX6_beginRound 50 = .ok (.getfield 21, 3) := by decide +kernel
theorem dX6_beginRound_53 : decode cX6_beginRound 53 = .ok (.iload_n 1, 1) := by decide +kernel
theorem dX6_beginRound_54 : decode cX6_beginRound 54 = .ok (.invokevirtual 93, 3) := by decide +kernel
theorem dX6_beginRound_57 : decode cX6_beginRound 57 = .ok (.aload_n 0, 1) := by decide +kernel
theorem dX6_beginRound_58 : decode cX6_beginRound 58 = .ok (.getfield 32, 3) := by decide +kernel
theorem dX6_beginRound_61 : decode cX6_beginRound 61 = .ok (.lconst 0, 1) := by decide +kernel
theorem dX6_beginRound_62 : decode cX6_beginRound 62 = .ok (.invokestatic 97, 3) := by decide +kernel
theorem dX6_beginRound_65 : decode cX6_beginRound 65 = .ok (.aload_n 0, 1) := by decide +kernel
theorem dX6_beginRound_66 : decode cX6_beginRound 66 = .ok (.getfield 39, 3) := by decide +kernel
theorem dX6_beginRound_69 : decode cX6_beginRound 69 = .ok (.lconst 0, 1) := by decide +kernel
theorem dX6_beginRound_70 : decode cX6_beginRound 70 = .ok (.invokestatic 97, 3) := by decide +kernel
theorem dX6_beginRound_73 : decode cX6_beginRound 73 = .ok (.aload_n 0, 1) := by decide +kernel
theorem dX6_beginRound_74 : decode cX6_beginRound 74 = .ok (.getfield 21, 3) := by decide +kernel
theorem dX6_beginRound_77 : decode cX6_beginRound 77 = .ok (.getfield 100, 3) := by decide +kernel
theorem dX6_beginRound_80 : decode cX6_beginRound 80 = .ok (.iconst 1, 1) := by decide +kernel
theorem dX6_beginRound_81 : decode cX6_beginRound 81 = .ok (.isub, 1) := by decide +kernel
theorem dX6_beginRound_82 : decode cX6_beginRound 82 = .ok (.istore_n 2, 1) := by decide +kernel
theorem dX6_beginRound_83 : decode cX6_beginRound 83 = .ok (.iload_n 2, 1) := by decide +kernel
theorem dX6_beginRound_84 : decode cX6_beginRound 84 = .ok (.ifCond .le 101, 3) := by decide +kernel
theorem dX6_beginRound_87 : decode cX6_beginRound 87 = .ok (.aload_n 0, 1) := by decide +kernel
theorem dX6_beginRound_88 : decode cX6_beginRound 88 = .ok (.getfield 21, 3) := by decide +kernel
theorem dX6_beginRound_91 : decode cX6_beginRound 91 = .ok (.getfield 103, 3) := by decide +kernel
theorem dX6_beginRound_94 : decode cX6_beginRound 94 = .ok (.iload_n 2, 1) := by decide +kernel
theorem dX6_beginRound_95 : decode cX6_beginRound 95 = .ok (.iaload, 1) := by decide +kernel
theorem dX6_beginRound_96 : decode cX6_beginRound 96 = .ok (.istore_n 3, 1) := by decide +kernel
theorem dX6_beginRound_97 : decode cX6_beginRound 97 = .ok (.aload_n 0, 1) := by decide +kernel
theorem dX6_beginRound_98 : decode cX6_beginRound 98 = .ok (.getfield 21, 3) := by decide +kernel
theorem dX6_beginRound_101 : decode cX6_beginRound 101 = .ok (.getfield 106, 3) := by decide +kernel
theorem dX6_beginRound_104 : decode cX6_beginRound 104 = .ok (.iload_n 3, 1) := by decide +kernel
theorem dX6_beginRound_105 : decode cX6_beginRound 105 = .ok (.iaload, 1) := by decide +kernel
theorem dX6_beginRound_106 : decode cX6_beginRound 106 = .ok (.istore 4, 2) := by decide +kernel
theorem dX6_beginRound_108 : decode cX6_beginRound 108 = .ok (.aload_n 0, 1) := by decide +kernel
theorem dX6_beginRound_109 : decode cX6_beginRound 109 = .ok (.getfield 39, 3) := by decide +kernel
theorem dX6_beginRound_112 : decode cX6_beginRound 112 = .ok (.iload_n 3, 1) := by decide +kernel
theorem dX6_beginRound_113 : decode cX6_beginRound 113 = .ok (.dup2, 1) := by decide +kernel
theorem dX6_beginRound_114 : decode cX6_beginRound 114 = .ok (.laload, 1) := by decide +kernel
theorem dX6_beginRound_115 : decode cX6_beginRound 115 = .ok (.aload_n 0, 1) := by decide +kernel
theorem dX6_beginRound_116 : decode cX6_beginRound 116 = .ok (.getfield 12, 3) := by decide +kernel
theorem dX6_beginRound_119 : decode cX6_beginRound 119 = .ok (.getfield 109, 3) := by decide +kernel
theorem dX6_beginRound_122 : decode cX6_beginRound 122 = .ok (.iload_n 3, 1) := by decide +kernel
theorem dX6_beginRound_123 : decode cX6_beginRound 123 = .ok (.iaload, 1) := by decide +kernel
theorem dX6_beginRound_124 : decode cX6_beginRound 124 = .ok (.i2l, 1) := by decide +kernel
theorem dX6_beginRound_125 : decode cX6_beginRound 125 = .ok (.ladd, 1) := by decide +kernel
theorem dX6_beginRound_126 : decode cX6_beginRound 126 = .ok (.lastore, 1) := by decide +kernel
theorem dX6_beginRound_127 : decode cX6_beginRound 127 = .ok (.aload_n 0, 1) := by decide +kernel
theorem dX6_beginRound_128 : decode cX6_beginRound 128 = .ok (.getfield 39, 3) := by decide +kernel
theorem dX6_beginRound_131 : decode cX6_beginRound 131 = .ok (.aload_n 0, 1) := by decide +kernel
theorem dX6_beginRound_132 : decode cX6_beginRound 132 = .ok (.getfield 21, 3) := by decide +kernel
theorem dX6_beginRound_135 : decode cX6_beginRound 135 = .ok (.getfield 112, 3) := by decide +kernel
theorem dX6_beginRound_138 : decode cX6_beginRound 138 = .ok (.iload_n 3, 1) := by decide +kernel
theorem dX6_beginRound_139 : decode cX6_beginRound 139 = .ok (.iaload, 1) := by decide +kernel
theorem dX6_beginRound_140 : decode cX6_beginRound 140 = .ok (.dup2, 1) := by decide +kernel
theorem dX6_beginRound_141 : decode cX6_beginRound 141 = .ok (.laload, 1) := by decide +kernel
theorem dX6_beginRound_142 : decode cX6_beginRound 142 = .ok (.aload_n 0, 1) := by decide +kernel
theorem dX6_beginRound_143 : decode cX6_beginRound 143 = .ok (.getfield 39, 3) := by decide +kernel
theorem dX6_beginRound_146 : decode cX6_beginRound 146 = .ok (.iload_n 3, 1) := by decide +kernel
theorem dX6_beginRound_147 : decode cX6_beginRound 147 = .ok (.laload, 1) := by decide +kernel
theorem dX6_beginRound_148 : decode cX6_beginRound 148 = .ok (.ladd, 1) := by decide +kernel
theorem dX6_beginRound_149 : decode cX6_beginRound 149 = .ok (.lastore, 1) := by decide +kernel
theorem dX6_beginRound_150 : decode cX6_beginRound 150 = .ok (.iload 4, 2) := by decide +kernel
theorem dX6_beginRound_152 : decode cX6_beginRound 152 = .ok (.ifCond .lt 27, 3) := by decide +kernel
theorem dX6_beginRound_155 : decode cX6_beginRound 155 = .ok (.aload_n 0, 1) := by decide +kernel
theorem dX6_beginRound_156 : decode cX6_beginRound 156 = .ok (.getfield 32, 3) := by decide +kernel
theorem dX6_beginRound_159 : decode cX6_beginRound 159 = .ok (.iload 4, 2) := by decide +kernel
theorem dX6_beginRound_161 : decode cX6_beginRound 161 = .ok (.aload_n 0, 1) := by decide +kernel
theorem dX6_beginRound_162 : decode cX6_beginRound 162 = .ok (.getfield 21, 3) := by decide +kernel
theorem dX6_beginRound_165 : decode cX6_beginRound 165 = .ok (.getfield 115, 3) := by decide +kernel
theorem dX6_beginRound_168 : decode cX6_beginRound 168 = .ok (.iload_n 3, 1) := by decide +kernel
theorem dX6_beginRound_169 : decode cX6_beginRound 169 = .ok (.iaload, 1) := by decide +kernel
theorem dX6_beginRound_170 : decode cX6_beginRound 170 = .ok (.i2l, 1) := by decide +kernel
theorem dX6_beginRound_171 : decode cX6_beginRound 171 = .ok (.aload_n 0, 1) := by decide +kernel
theorem dX6_beginRound_172 : decode cX6_beginRound 172 = .ok (.getfield 39, 3) := by decide +kernel
theorem dX6_beginRound_175 : decode cX6_beginRound 175 = .ok (.iload_n 3, 1) := by decide +kernel
theorem dX6_beginRound_176 : decode cX6_beginRound 176 = .ok (.laload, 1) := by decide +kernel
theorem dX6_beginRound_177 : decode cX6_beginRound 177 = .ok (.lmul, 1) := by decide +kernel
theorem dX6_beginRound_178 : decode cX6_beginRound 178 = .ok (.lastore, 1) := by decide +kernel
theorem dX6_beginRound_179 : decode cX6_beginRound 179 = .ok (.iinc 2 (-1), 3) := by decide +kernel
theorem dX6_beginRound_182 : decode cX6_beginRound 182 = .ok (.goto (-99), 3) := by decide +kernel
theorem dX6_beginRound_185 : decode cX6_beginRound 185 = .ok (.return_, 1) := by decide +kernel
theorem dX6_sweepUpTo_0 : decode cX6_sweepUpTo 0 = .ok (.aload_n 0, 1) := by decide +kernel
theorem dX6_sweepUpTo_1 : decode cX6_sweepUpTo 1 = .ok (.iconst 0, 1) := by decide +kernel
theorem dX6_sweepUpTo_2 : decode cX6_sweepUpTo 2 = .ok (.putfield 118, 3) := by decide +kernel
theorem dX6_sweepUpTo_5 : decode cX6_sweepUpTo 5 = .ok (.aload_n 0, 1) := by decide +kernel
theorem dX6_sweepUpTo_6 : decode cX6_sweepUpTo 6 = .ok (.invokevirtual 121, 3) := by decide +kernel
theorem dX6_sweepUpTo_9 : decode cX6_sweepUpTo 9 = .ok (.iconst 1, 1) := by decide +kernel
theorem dX6_sweepUpTo_10 : decode cX6_sweepUpTo 10 = .ok (.istore_n 2, 1) := by decide +kernel
theorem dX6_sweepUpTo_11 : decode cX6_sweepUpTo 11 = .ok (.iload_n 2, 1) := by decide +kernel
theorem dX6_sweepUpTo_12 : decode cX6_sweepUpTo 12 = .ok (.ifCond .eq 110, 3) := by decide +kernel
theorem dX6_sweepUpTo_15 : decode cX6_sweepUpTo 15 = .ok (.aload_n 0, 1) := by decide +kernel
theorem dX6_sweepUpTo_16 : decode cX6_sweepUpTo 16 = .ok (.getfield 118, 3) := by decide +kernel
theorem dX6_sweepUpTo_19 : decode cX6_sweepUpTo 19 = .ok (.iload_n 1, 1) := by decide +kernel
theorem dX6_sweepUpTo_20 : decode cX6_sweepUpTo 20 = .ok (.if_icmp .ge 102, 3) := by decide +kernel
theorem dX6_sweepUpTo_23 : decode cX6_sweepUpTo 23 = .ok (.iconst 0, 1) := by decide +kernel
theorem dX6_sweepUpTo_24 : decode cX6_sweepUpTo 24 = .ok (.istore_n 2, 1) := by decide +kernel
theorem dX6_sweepUpTo_25 : decode cX6_sweepUpTo 25 = .ok (.iconst 0, 1) := by decide +kernel
theorem dX6_sweepUpTo_26 : decode cX6_sweepUpTo 26 = .ok (.istore_n 3, 1) := by decide +kernel
theorem dX6_sweepUpTo_27 : decode cX6_sweepUpTo 27 = .ok (.iload_n 3, 1) := by decide +kernel
theorem dX6_sweepUpTo_28 : decode cX6_sweepUpTo 28 = .ok (.aload_n 0, 1) := by decide +kernel
theorem dX6_sweepUpTo_29 : decode cX6_sweepUpTo 29 = .ok (.getfield 28, 3) := by decide +kernel
theorem dX6_sweepUpTo_32 : decode cX6_sweepUpTo 32 = .ok (.getfield 124, 3) := by decide +kernel
theorem dX6_sweepUpTo_35 : decode cX6_sweepUpTo 35 = .ok (.if_icmp .ge 52, 3) := by decide +kernel
theorem dX6_sweepUpTo_38 : decode cX6_sweepUpTo 38 = .ok (.aload_n 0, 1) := by decide +kernel
theorem dX6_sweepUpTo_39 : decode cX6_sweepUpTo 39 = .ok (.iload_n 3, 1) := by decide +kernel
theorem dX6_sweepUpTo_40 : decode cX6_sweepUpTo 40 = .ok (.invokevirtual 125, 3) := by decide +kernel
theorem dX6_sweepUpTo_43 : decode cX6_sweepUpTo 43 = .ok (.aload_n 0, 1) := by decide +kernel
theorem dX6_sweepUpTo_44 : decode cX6_sweepUpTo 44 = .ok (.iload_n 3, 1) := by decide +kernel
theorem dX6_sweepUpTo_45 : decode cX6_sweepUpTo 45 = .ok (.invokevirtual 129, 3) := by decide +kernel
theorem dX6_sweepUpTo_48 : decode cX6_sweepUpTo 48 = .ok (.invokestatic 132, 3) := by decide +kernel
theorem dX6_sweepUpTo_51 : decode cX6_sweepUpTo 51 = .ok (.lstore 4, 2) := by decide +kernel
theorem dX6_sweepUpTo_53 : decode cX6_sweepUpTo 53 = .ok (.lload 4, 2) := by decide +kernel
theorem dX6_sweepUpTo_55 : decode cX6_sweepUpTo 55 = .ok (.lconst 0, 1) := by decide +kernel
theorem dX6_sweepUpTo_56 : decode cX6_sweepUpTo 56 = .ok (.lcmp, 1) := by decide +kernel
theorem dX6_sweepUpTo_57 : decode cX6_sweepUpTo 57 = .ok (.ifCond .eq 24, 3) := by decide +kernel
theorem dX6_sweepUpTo_60 : decode cX6_sweepUpTo 60 = .ok (.iconst 1, 1) := by decide +kernel
theorem dX6_sweepUpTo_61 : decode cX6_sweepUpTo 61 = .ok (.istore_n 2, 1) := by decide +kernel
theorem dX6_sweepUpTo_62 : decode cX6_sweepUpTo 62 = .ok (.aload_n 0, 1) := by decide +kernel
theorem dX6_sweepUpTo_63 : decode cX6_sweepUpTo 63 = .ok (.iload_n 3, 1) := by decide +kernel
theorem dX6_sweepUpTo_64 : decode cX6_sweepUpTo 64 = .ok (.ldc2_w 136, 3) := by decide +kernel
theorem dX6_sweepUpTo_67 : decode cX6_sweepUpTo 67 = .ok (.ldc2_w 138, 3) := by decide +kernel
theorem dX6_sweepUpTo_70 : decode cX6_sweepUpTo 70 = .ok (.lload 4, 2) := by decide +kernel
theorem dX6_sweepUpTo_72 : decode cX6_sweepUpTo 72 = .ok (.invokestatic 140, 3) := by decide +kernel
theorem dX6_sweepUpTo_75 : decode cX6_sweepUpTo 75 = .ok (.invokestatic 145, 3) := by decide +kernel
theorem dX6_sweepUpTo_78 : decode cX6_sweepUpTo 78 = .ok (.invokevirtual 148, 3) := by decide +kernel
theorem dX6_sweepUpTo_81 : decode cX6_sweepUpTo 81 = .ok (.iinc 3 1, 3) := by decide +kernel
theorem dX6_sweepUpTo_84 : decode cX6_sweepUpTo 84 = .ok (.goto (-57), 3) := by decide +kernel
theorem dX6_sweepUpTo_87 : decode cX6_sweepUpTo 87 = .ok (.aload_n 0, 1) := by decide +kernel
theorem dX6_sweepUpTo_88 : decode cX6_sweepUpTo 88 = .ok (.dup, 1) := by decide +kernel
theorem dX6_sweepUpTo_89 : decode cX6_sweepUpTo 89 = .ok (.getfield 118, 3) := by decide +kernel
theorem dX6_sweepUpTo_92 : decode cX6_sweepUpTo 92 = .ok (.iconst 1, 1) := by decide +kernel
theorem dX6_sweepUpTo_93 : decode cX6_sweepUpTo 93 = .ok (.iadd, 1) := by decide +kernel
theorem dX6_sweepUpTo_94 : decode cX6_sweepUpTo 94 = .ok (.putfield 118, 3) := by decide +kernel
theorem dX6_sweepUpTo_97 : decode cX6_sweepUpTo 97 = .ok (.aload_n 0, 1) := by decide +kernel
theorem dX6_sweepUpTo_98 : decode cX6_sweepUpTo 98 = .ok (.dup, 1) := by decide +kernel
theorem dX6_sweepUpTo_99 : decode cX6_sweepUpTo 99 = .ok (.getfield 118, 3) := by decide +kernel
theorem dX6_sweepUpTo_102 : decode cX6_sweepUpTo 102 = .ok (.iload_n 2, 1) := by decide +kernel
theorem dX6_sweepUpTo_103 : decode cX6_sweepUpTo 103 = .ok (.ifCond .eq 11, 3) := by decide +kernel
theorem dX6_sweepUpTo_106 : decode cX6_sweepUpTo 106 = .ok (.aload_n 0, 1) := by decide +kernel
theorem dX6_sweepUpTo_107 : decode cX6_sweepUpTo 107 = .ok (.iload_n 1, 1) := by decide +kernel
theorem dX6_sweepUpTo_108 : decode cX6_sweepUpTo 108 = .ok (.invokevirtual 152, 3) := by decide +kernel
theorem dX6_sweepUpTo_111 : decode cX6_sweepUpTo 111 = .ok (.goto 4, 3) := by decide +kernel
theorem dX6_sweepUpTo_114 : decode cX6_sweepUpTo 114 = .ok (.iconst 0, 1) := by decide +kernel
theorem dX6_sweepUpTo_115 : decode cX6_sweepUpTo 115 = .ok (.iadd, 1) := by decide +kernel
theorem dX6_sweepUpTo_116 : decode cX6_sweepUpTo 116 = .ok (.putfield 118, 3) := by decide +kernel
theorem dX6_sweepUpTo_119 : decode cX6_sweepUpTo 119 = .ok (.goto (-108), 3) := by decide +kernel
theorem dX6_sweepUpTo_122 : decode cX6_sweepUpTo 122 = .ok (.return_, 1) := by decide +kernel
theorem dX6_sweepsToLeaveOut_0 : decode cX6_sweepsToLeaveOut 0 = .ok (.aload_n 0, 1) := by decide +kernel
theorem dX6_sweepsToLeaveOut_1 : decode cX6_sweepsToLeaveOut 1 = .ok (.getfield 118, 3) := by decide +kernel
theorem dX6_sweepsToLeaveOut_4 : decode cX6_sweepsToLeaveOut 4 = .ok (.aload_n 0, 1) := by decide +kernel
theorem dX6_sweepsToLeaveOut_5 : decode cX6_sweepsToLeaveOut 5 = .ok (.getfield 156, 3) := by decide +kernel
theorem dX6_sweepsToLeaveOut_8 : decode cX6_sweepsToLeaveOut 8 = .ok (.isub, 1) := by decide +kernel
theorem dX6_sweepsToLeaveOut_9 : decode cX6_sweepsToLeaveOut 9 = .ok (.istore_n 2, 1) := by decide +kernel
theorem dX6_sweepsToLeaveOut_10 : decode cX6_sweepsToLeaveOut 10 = .ok (.iload_n 2, 1) := by decide +kernel
theorem dX6_sweepsToLeaveOut_11 : decode cX6_sweepsToLeaveOut 11 = .ok (.ifCond .le 21, 3) := by decide +kernel
theorem dX6_sweepsToLeaveOut_14 : decode cX6_sweepsToLeaveOut 14 = .ok (.aload_n 0, 1) := by decide +kernel
theorem dX6_sweepsToLeaveOut_15 : decode cX6_sweepsToLeaveOut 15 = .ok (.invokevirtual 159, 3) := by decide +kernel
theorem dX6_sweepsToLeaveOut_18 : decode cX6_sweepsToLeaveOut 18 = .ok (.ifCond .eq 14, 3) := by decide +kernel
theorem dX6_sweepsToLeaveOut_21 : decode cX6_sweepsToLeaveOut 21 = .ok (.iload_n 1, 1) := by decide +kernel
theorem dX6_sweepsToLeaveOut_22 : decode cX6_sweepsToLeaveOut 22 = .ok (.aload_n 0, 1) := by decide +kernel
theorem dX6_sweepsToLeaveOut_23 : decode cX6_sweepsToLeaveOut 23 = .ok (.getfield 118, 3) := by decide +kernel
theorem dX6_sweepsToLeaveOut_26 : decode cX6_sweepsToLeaveOut 26 = .ok (.isub, 1) := by decide +kernel
theorem dX6_sweepsToLeaveOut_27 : decode cX6_sweepsToLeaveOut 27 = .ok (.iload_n 2, 1) := by decide +kernel
theorem dX6_sweepsToLeaveOut_28 : decode cX6_sweepsToLeaveOut 28 = .ok (.idiv, 1) := by decide +kernel
theorem dX6_sweepsToLeaveOut_29 : decode cX6_sweepsToLeaveOut 29 = .ok (.iload_n 2, 1) := by decide +kernel
theorem dX6_sweepsToLeaveOut_30 : decode cX6_sweepsToLeaveOut 30 = .ok (.imul, 1) := by decide +kernel
theorem dX6_sweepsToLeaveOut_31 : decode cX6_sweepsToLeaveOut 31 = .ok (.ireturn, 1) := by decide +kernel
theorem dX6_sweepsToLeaveOut_32 : decode cX6_sweepsToLeaveOut 32 = .ok (.aload_n 0, 1) := by decide +kernel
theorem dX6_sweepsToLeaveOut_33 : decode cX6_sweepsToLeaveOut 33 = .ok (.getfield 118, 3) := by decide +kernel
theorem dX6_sweepsToLeaveOut_36 : decode cX6_sweepsToLeaveOut 36 = .ok (.aload_n 0, 1) := by decide +kernel
theorem dX6_sweepsToLeaveOut_37 : decode cX6_sweepsToLeaveOut 37 = .ok (.getfield 118, 3) := by decide +kernel
theorem dX6_sweepsToLeaveOut_40 : decode cX6_sweepsToLeaveOut 40 = .ok (.iconst 1, 1) := by decide +kernel
theorem dX6_sweepsToLeaveOut_41 : decode cX6_sweepsToLeaveOut 41 = .ok (.isub, 1) := by decide +kernel
theorem dX6_sweepsToLeaveOut_42 : decode cX6_sweepsToLeaveOut 42 = .ok (.iand, 1) := by decide +kernel
theorem dX6_sweepsToLeaveOut_43 : decode cX6_sweepsToLeaveOut 43 = .ok (.ifCond .ne 7, 3) := by decide +kernel
theorem dX6_sweepsToLeaveOut_46 : decode cX6_sweepsToLeaveOut 46 = .ok (.aload_n 0, 1) := by decide +kernel
theorem dX6_sweepsToLeaveOut_47 : decode cX6_sweepsToLeaveOut 47 = .ok (.invokevirtual 121, 3) := by decide +kernel
theorem dX6_sweepsToLeaveOut_50 : decode cX6_sweepsToLeaveOut 50 = .ok (.iconst 0, 1) := by decide +kernel
theorem dX6_sweepsToLeaveOut_51 : decode cX6_sweepsToLeaveOut 51 = .ok (.ireturn, 1) := by decide +kernel
theorem dX6_keepFlows_0 : decode cX6_keepFlows 0 = .ok (.aload_n 0, 1) := by decide +kernel
theorem dX6_keepFlows_1 : decode cX6_keepFlows 1 = .ok (.getfield 32, 3) := by decide +kernel
theorem dX6_keepFlows_4 : decode cX6_keepFlows 4 = .ok (.iconst 0, 1) := by decide +kernel
theorem dX6_keepFlows_5 : decode cX6_keepFlows 5 = .ok (.aload_n 0, 1) := by decide +kernel
theorem dX6_keepFlows_6 : decode cX6_keepFlows 6 = .ok (.getfield 42, 3) := by decide +kernel
theorem dX6_keepFlows_9 : decode cX6_keepFlows 9 = .ok (.iconst 0, 1) := by decide +kernel
theorem dX6_keepFlows_10 : decode cX6_keepFlows 10 = .ok (.bipush 14, 2) := by decide +kernel
theorem dX6_keepFlows_12 : decode cX6_keepFlows 12 = .ok (.invokestatic 163, 3) := by decide +kernel
theorem dX6_keepFlows_15 : decode cX6_keepFlows 15 = .ok (.aload_n 0, 1) := by decide +kernel
theorem dX6_keepFlows_16 : decode cX6_keepFlows 16 = .ok (.aload_n 0, 1) := by decide +kernel
theorem dX6_keepFlows_17 : decode cX6_keepFlows 17 = .ok (.getfield 118, 3) := by decide +kernel
theorem dX6_keepFlows_20 : decode cX6_keepFlows 20 = .ok (.putfield 156, 3) := by decide +kernel
theorem dX6_keepFlows_23 : decode cX6_keepFlows 23 = .ok (.return_, 1) := by decide +kernel
theorem dX6_areFlowsAsKept_0 : decode cX6_areFlowsAsKept 0 = .ok (.iconst 0, 1) := by decide +kernel
theorem dX6_areFlowsAsKept_1 : decode cX6_areFlowsAsKept 1 = .ok (.istore_n 1, 1) := by decide +kernel
theorem dX6_areFlowsAsKept_2 : decode cX6_areFlowsAsKept 2 = .ok (.iload_n 1, 1) := by decide +kernel
theorem dX6_areFlowsAsKept_3 : decode cX6_areFlowsAsKept 3 = .ok (.aload_n 0, 1) := by decide +kernel
theorem dX6_areFlowsAsKept_4 : decode cX6_areFlowsAsKept 4 = .ok (.getfield 12, 3) := by decide +kernel
theorem dX6_areFlowsAsKept_7 : decode cX6_areFlowsAsKept 7 = .ok (.getfield 83, 3) := by decide +kernel
theorem dX6_areFlowsAsKept_10 : decode cX6_areFlowsAsKept 10 = .ok (.if_icmp .ge 27, 3) := by decide +kernel
theorem dX6_areFlowsAsKept_13 : decode cX6_areFlowsAsKept 13 = .ok (.aload_n 0, 1) := by decide +kernel
theorem dX6_areFlowsAsKept_14 : decode cX6_areFlowsAsKept 14 = .ok (.getfield 32, 3) := by decide +kernel
theorem dX6_areFlowsAsKept_17 : decode cX6_areFlowsAsKept 17 = .ok (.iload_n 1, 1) := by decide +kernel
theorem dX6_areFlowsAsKept_18 : decode cX6_areFlowsAsKept 18 = .ok (.laload, 1) := by decide +kernel
theorem dX6_areFlowsAsKept_19 : decode cX6_areFlowsAsKept 19 = .ok (.aload_n 0, 1) := by decide +kernel
theorem dX6_areFlowsAsKept_20 : decode cX6_areFlowsAsKept 20 = .ok (.getfield 42, 3) := by decide +kernel
theorem dX6_areFlowsAsKept_23 : decode cX6_areFlowsAsKept 23 = .ok (.iload_n 1, 1) := by decide +kernel
theorem dX6_areFlowsAsKept_24 : decode cX6_areFlowsAsKept 24 = .ok (.laload, 1) := by decide +kernel
theorem dX6_areFlowsAsKept_25 : decode cX6_areFlowsAsKept 25 = .ok (.lcmp, 1) := by decide +kernel
theorem dX6_areFlowsAsKept_26 : decode cX6_areFlowsAsKept 26 = .ok (.ifCond .eq 5, 3) := by decide +kernel
theorem dX6_areFlowsAsKept_29 : decode cX6_areFlowsAsKept 29 = .ok (.iconst 0, 1) := by decide +kernel
theorem dX6_areFlowsAsKept_30 : decode cX6_areFlowsAsKept 30 = .ok (.ireturn, 1) := by decide +kernel
theorem dX6_areFlowsAsKept_31 : decode cX6_areFlowsAsKept 31 = .ok (.iinc 1 1, 3) := by decide +kernel
theorem dX6_areFlowsAsKept_34 : decode cX6_areFlowsAsKept 34 = .ok (.goto (-32), 3) := by decide +kernel
theorem dX6_areFlowsAsKept_37 : decode cX6_areFlowsAsKept 37 = .ok (.iconst 1, 1) := by decide +kernel
theorem dX6_areFlowsAsKept_38 : decode cX6_areFlowsAsKept 38 = .ok (.ireturn, 1) := by decide +kernel
theorem dX6_lessen_0 : decode cX6_lessen 0 = .ok (.iload_n 1, 1) := by decide +kernel
theorem dX6_lessen_1 : decode cX6_lessen 1 = .ok (.bipush 9, 2) := by decide +kernel
theorem dX6_lessen_3 : decode cX6_lessen 3 = .ok (.imul, 1) := by decide +kernel
theorem dX6_lessen_4 : decode cX6_lessen 4 = .ok (.istore 4, 2) := by decide +kernel
theorem dX6_lessen_6 : decode cX6_lessen 6 = .ok (.iload 4, 2) := by decide +kernel
theorem dX6_lessen_8 : decode cX6_lessen 8 = .ok (.istore 5, 2) := by decide +kernel
theorem dX6_lessen_10 : decode cX6_lessen 10 = .ok (.iload 5, 2) := by decide +kernel
theorem dX6_lessen_12 : decode cX6_lessen 12 = .ok (.iload 4, 2) := by decide +kernel
theorem dX6_lessen_14 : decode cX6_lessen 14 = .ok (.aload_n 0, 1) := by decide +kernel
theorem dX6_lessen_15 : decode cX6_lessen 15 = .ok (.getfield 28, 3) := by decide +kernel
theorem dX6_lessen_18 : decode cX6_lessen 18 = .ok (.getfield 169, 3) := by decide +kernel
theorem dX6_lessen_21 : decode cX6_lessen 21 = .ok (.iload_n 1, 1) := by decide +kernel
theorem dX6_lessen_22 : decode cX6_lessen 22 = .ok (.iaload, 1) := by decide +kernel
theorem dX6_lessen_23 : decode cX6_lessen 23 = .ok (.iadd, 1) := by decide +kernel
theorem dX6_lessen_24 : decode cX6_lessen 24 = .ok (.if_icmp .ge 40, 3) := by decide +kernel
theorem dX6_lessen_27 : decode cX6_lessen 27 = .ok (.aload_n 0, 1) := by decide +kernel
theorem dX6_lessen_28 : decode cX6_lessen 28 = .ok (.getfield 32, 3) := by decide +kernel
theorem dX6_lessen_31 : decode cX6_lessen 31 = .ok (.aload_n 0, 1) := by decide +kernel
theorem dX6_lessen_32 : decode cX6_lessen 32 = .ok (.getfield 28, 3) := by decide +kernel
theorem dX6_lessen_35 : decode cX6_lessen 35 = .ok (.getfield 172, 3) := by decide +kernel
theorem dX6_lessen_38 : decode cX6_lessen 38 = .ok (.iload 5, 2) := by decide +kernel
theorem dX6_lessen_40 : decode cX6_lessen 40 = .ok (.iaload, 1) := by decide +kernel
theorem dX6_lessen_41 : decode cX6_lessen 41 = .ok (.dup2, 1) := by decide +kernel
theorem dX6_lessen_42 : decode cX6_lessen 42 = .ok (.laload, 1) := by decide +kernel
theorem dX6_lessen_43 : decode cX6_lessen 43 = .ok (.aload_n 0, 1) := by decide +kernel
theorem dX6_lessen_44 : decode cX6_lessen 44 = .ok (.getfield 28, 3) := by decide +kernel
theorem dX6_lessen_47 : decode cX6_lessen 47 = .ok (.getfield 175, 3) := by decide +kernel
theorem dX6_lessen_50 : decode cX6_lessen 50 = .ok (.iload 5, 2) := by decide +kernel
theorem dX6_lessen_52 : decode cX6_lessen 52 = .ok (.iaload, 1) := by decide +kernel
theorem dX6_lessen_53 : decode cX6_lessen 53 = .ok (.i2l, 1) := by decide +kernel
theorem dX6_lessen_54 : decode cX6_lessen 54 = .ok (.lload_n 2, 1) := by decide +kernel
theorem dX6_lessen_55 : decode cX6_lessen 55 = .ok (.lmul, 1) := by decide +kernel
theorem dX6_lessen_56 : decode cX6_lessen 56 = .ok (.lsub, 1) := by decide +kernel
theorem dX6_lessen_57 : decode cX6_lessen 57 = .ok (.lastore, 1) := by decide +kernel
theorem dX6_lessen_58 : decode cX6_lessen 58 = .ok (.iinc 5 1, 3) := by decide +kernel
theorem dX6_lessen_61 : decode cX6_lessen 61 = .ok (.goto (-51), 3) := by decide +kernel
theorem dX6_lessen_64 : decode cX6_lessen 64 = .ok (.return_, 1) := by decide +kernel
theorem dX6_ringSum_0 : decode cX6_ringSum 0 = .ok (.lconst 0, 1) := by decide +kernel
theorem dX6_ringSum_1 : decode cX6_ringSum 1 = .ok (.lstore_n 2, 1) := by decide +kernel
theorem dX6_ringSum_2 : decode cX6_ringSum 2 = .ok (.iload_n 1, 1) := by decide +kernel
theorem dX6_ringSum_3 : decode cX6_ringSum 3 = .ok (.bipush 9, 2) := by decide +kernel
theorem dX6_ringSum_5 : decode cX6_ringSum 5 = .ok (.imul, 1) := by decide +kernel
theorem dX6_ringSum_6 : decode cX6_ringSum 6 = .ok (.istore 4, 2) := by decide +kernel
theorem dX6_ringSum_8 : decode cX6_ringSum 8 = .ok (.iload 4, 2) := by decide +kernel
theorem dX6_ringSum_10 : decode cX6_ringSum 10 = .ok (.istore 5, 2) := by decide +kernel
theorem dX6_ringSum_12 : decode cX6_ringSum 12 = .ok (.iload 5, 2) := by decide +kernel
theorem dX6_ringSum_14 : decode cX6_ringSum 14 = .ok (.iload 4, 2) := by decide +kernel
theorem dX6_ringSum_16 : decode cX6_ringSum 16 = .ok (.aload_n 0, 1) := by decide +kernel
theorem dX6_ringSum_17 : decode cX6_ringSum 17 = .ok (.getfield 28, 3) := by decide +kernel
theorem dX6_ringSum_20 : decode cX6_ringSum 20 = .ok (.getfield 169, 3) := by decide +kernel
theorem dX6_ringSum_23 : decode cX6_ringSum 23 = .ok (.iload_n 1, 1) := by decide +kernel
theorem dX6_ringSum_24 : decode cX6_ringSum 24 = .ok (.iaload, 1) := by decide +kernel
theorem dX6_ringSum_25 : decode cX6_ringSum 25 = .ok (.iadd, 1) := by decide +kernel
theorem dX6_ringSum_26 : decode cX6_ringSum 26 = .ok (.if_icmp .ge 52, 3) := by decide +kernel
theorem dX6_ringSum_29 : decode cX6_ringSum 29 = .ok (.aload_n 0, 1) := by decide +kernel
theorem dX6_ringSum_30 : decode cX6_ringSum 30 = .ok (.getfield 28, 3) := by decide +kernel
theorem dX6_ringSum_33 : decode cX6_ringSum 33 = .ok (.getfield 172, 3) := by decide +kernel
theorem dX6_ringSum_36 : decode cX6_ringSum 36 = .ok (.iload 5, 2) := by decide +kernel
theorem dX6_ringSum_38 : decode cX6_ringSum 38 = .ok (.iaload, 1) := by decide +kernel
theorem dX6_ringSum_39 : decode cX6_ringSum 39 = .ok (.istore 6, 2) := by decide +kernel
theorem dX6_ringSum_41 : decode cX6_ringSum 41 = .ok (.lload_n 2, 1) := by decide +kernel
theorem dX6_ringSum_42 : decode cX6_ringSum 42 = .ok (.aload_n 0, 1) := by decide +kernel
theorem dX6_ringSum_43 : decode cX6_ringSum 43 = .ok (.getfield 28, 3) := by decide +kernel
theorem dX6_ringSum_46 : decode cX6_ringSum 46 = .ok (.getfield 175, 3) := by decide +kernel
theorem dX6_ringSum_49 : decode cX6_ringSum 49 = .ok (.iload 5, 2) := by decide +kernel
theorem dX6_ringSum_51 : decode cX6_ringSum 51 = .ok (.iaload, 1) := by decide +kernel
theorem dX6_ringSum_52 : decode cX6_ringSum 52 = .ok (.i2l, 1) := by decide +kernel
theorem dX6_ringSum_53 : decode cX6_ringSum 53 = .ok (.aload_n 0, 1) := by decide +kernel
theorem dX6_ringSum_54 : decode cX6_ringSum 54 = .ok (.getfield 12, 3) := by decide +kernel
theorem dX6_ringSum_57 : decode cX6_ringSum 57 = .ok (.iload 6, 2) := by decide +kernel
theorem dX6_ringSum_59 : decode cX6_ringSum 59 = .ok (.aload_n 0, 1) := by decide +kernel
theorem dX6_ringSum_60 : decode cX6_ringSum 60 = .ok (.getfield 32, 3) := by decide +kernel
theorem dX6_ringSum_63 : decode cX6_ringSum 63 = .ok (.iload 6, 2) := by decide +kernel
theorem dX6_ringSum_65 : decode cX6_ringSum 65 = .ok (.laload, 1) := by decide +kernel
theorem dX6_ringSum_66 : decode cX6_ringSum 66 = .ok (.invokevirtual 176, 3) := by decide +kernel
theorem dX6_ringSum_69 : decode cX6_ringSum 69 = .ok (.lmul, 1) := by decide +kernel
theorem dX6_ringSum_70 : decode cX6_ringSum 70 = .ok (.ladd, 1) := by decide +kernel
theorem dX6_ringSum_71 : decode cX6_ringSum 71 = .ok (.lstore_n 2, 1) := by decide +kernel
theorem dX6_ringSum_72 : decode cX6_ringSum 72 = .ok (.iinc 5 1, 3) := by decide +kernel
theorem dX6_ringSum_75 : decode cX6_ringSum 75 = .ok (.goto (-63), 3) := by decide +kernel
theorem dX6_ringSum_78 : decode cX6_ringSum 78 = .ok (.lload_n 2, 1) := by decide +kernel
theorem dX6_ringSum_79 : decode cX6_ringSum 79 = .ok (.lreturn, 1) := by decide +kernel
theorem dX6_ringSteep_0 : decode cX6_ringSteep 0 = .ok (.lconst 0, 1) := by decide +kernel
theorem dX6_ringSteep_1 : decode cX6_ringSteep 1 = .ok (.lstore_n 2, 1) := by decide +kernel
theorem dX6_ringSteep_2 : decode cX6_ringSteep 2 = .ok (.iload_n 1, 1) := by decide +kernel
theorem dX6_ringSteep_3 : decode cX6_ringSteep 3 = .ok (.bipush 9, 2) := by decide +kernel
theorem dX6_ringSteep_5 : decode cX6_ringSteep 5 = .ok (.imul, 1) := by decide +kernel
theorem dX6_ringSteep_6 : decode cX6_ringSteep 6 = .ok (.istore 4, 2) := by decide +kernel
theorem dX6_ringSteep_8 : decode cX6_ringSteep 8 = .ok (.iload 4, 2) := by decide +kernel
theorem dX6_ringSteep_10 : decode cX6_ringSteep 10 = .ok (.istore 5, 2) := by decide +kernel
theorem dX6_ringSteep_12 : decode cX6_ringSteep 12 = .ok (.iload 5, 2) := by decide +kernel
theorem dX6_ringSteep_14 : decode cX6_ringSteep 14 = .ok (.iload 4, 2) := by decide +kernel
theorem dX6_ringSteep_16 : decode cX6_ringSteep 16 = .ok (.aload_n 0, 1) := by decide +kernel
theorem dX6_ringSteep_17 : decode cX6_ringSteep 17 = .ok (.getfield 28, 3) := by decide +kernel
theorem dX6_ringSteep_20 : decode cX6_ringSteep 20 = .ok (.getfield 169, 3) := by decide +kernel
theorem dX6_ringSteep_23 : decode cX6_ringSteep 23 = .ok (.iload_n 1, 1) := by decide +kernel
theorem dX6_ringSteep_24 : decode cX6_ringSteep 24 = .ok (.iaload, 1) := by decide +kernel
theorem dX6_ringSteep_25 : decode cX6_ringSteep 25 = .ok (.iadd, 1) := by decide +kernel
theorem dX6_ringSteep_26 : decode cX6_ringSteep 26 = .ok (.if_icmp .ge 40, 3) := by decide +kernel
theorem dX6_ringSteep_29 : decode cX6_ringSteep 29 = .ok (.aload_n 0, 1) := by decide +kernel
theorem dX6_ringSteep_30 : decode cX6_ringSteep 30 = .ok (.getfield 28, 3) := by decide +kernel
theorem dX6_ringSteep_33 : decode cX6_ringSteep 33 = .ok (.getfield 172, 3) := by decide +kernel
theorem dX6_ringSteep_36 : decode cX6_ringSteep 36 = .ok (.iload 5, 2) := by decide +kernel
theorem dX6_ringSteep_38 : decode cX6_ringSteep 38 = .ok (.iaload, 1) := by decide +kernel
theorem dX6_ringSteep_39 : decode cX6_ringSteep 39 = .ok (.istore 6, 2) := by decide +kernel
theorem dX6_ringSteep_41 : decode cX6_ringSteep 41 = .ok (.lload_n 2, 1) := by decide +kernel
theorem dX6_ringSteep_42 : decode cX6_ringSteep 42 = .ok (.aload_n 0, 1) := by decide +kernel
theorem dX6_ringSteep_43 : decode cX6_ringSteep 43 = .ok (.getfield 12, 3) := by decide +kernel
theorem dX6_ringSteep_46 : decode cX6_ringSteep 46 = .ok (.iload 6, 2) := by decide +kernel
theorem dX6_ringSteep_48 : decode cX6_ringSteep 48 = .ok (.aload_n 0, 1) := by decide +kernel
theorem dX6_ringSteep_49 : decode cX6_ringSteep 49 = .ok (.getfield 32, 3) := by decide +kernel
theorem dX6_ringSteep_52 : decode cX6_ringSteep 52 = .ok (.iload 6, 2) := by decide +kernel
theorem dX6_ringSteep_54 : decode cX6_ringSteep 54 = .ok (.laload, 1) := by decide +kernel
theorem dX6_ringSteep_55 : decode cX6_ringSteep 55 = .ok (.invokevirtual 180, 3) := by decide +kernel
theorem dX6_ringSteep_58 : decode cX6_ringSteep 58 = .ok (.ladd, 1) := by decide +kernel
theorem dX6_ringSteep_59 : decode cX6_ringSteep 59 = .ok (.lstore_n 2, 1) := by decide +kernel
theorem dX6_ringSteep_60 : decode cX6_ringSteep 60 = .ok (.iinc 5 1, 3) := by decide +kernel
theorem dX6_ringSteep_63 : decode cX6_ringSteep 63 = .ok (.goto (-51), 3) := by decide +kernel
theorem dX6_ringSteep_66 : decode cX6_ringSteep 66 = .ok (.lload_n 2, 1) := by decide +kernel
theorem dX6_ringSteep_67 : decode cX6_ringSteep 67 = .ok (.lreturn, 1) := by decide +kernel
theorem dX6_nearest_0 : decode cX6_nearest 0 = .ok (.lload_n 2, 1) := by decide +kernel
theorem dX6_nearest_1 : decode cX6_nearest 1 = .ok (.lconst 0, 1) := by decide +kernel
theorem dX6_nearest_2 : decode cX6_nearest 2 = .ok (.lcmp, 1) := by decide +kernel
theorem dX6_nearest_3 : decode cX6_nearest 3 = .ok (.ifCond .gt 5, 3) := by decide +kernel
theorem dX6_nearest_6 : decode cX6_nearest 6 = .ok (.lconst 0, 1) := by decide +kernel
theorem dX6_nearest_7 : decode cX6_nearest 7 = .ok (.lreturn, 1) := by decide +kernel
theorem dX6_nearest_8 : decode cX6_nearest 8 = .ok (.ldc2_w 183, 3) := by decide +kernel
theorem dX6_nearest_11 : decode cX6_nearest 11 = .ok (.lload_n 0, 1) := by decide +kernel
theorem dX6_nearest_12 : decode cX6_nearest 12 = .ok (.invokestatic 185, 3) := by decide +kernel
theorem dX6_nearest_15 : decode cX6_nearest 15 = .ok (.lmul, 1) := by decide +kernel
theorem dX6_nearest_16 : decode cX6_nearest 16 = .ok (.lload_n 2, 1) := by decide +kernel
theorem dX6_nearest_17 : decode cX6_nearest 17 = .ok (.ladd, 1) := by decide +kernel
theorem dX6_nearest_18 : decode cX6_nearest 18 = .ok (.lconst 1, 1) := by decide +kernel
theorem dX6_nearest_19 : decode cX6_nearest 19 = .ok (.lsub, 1) := by decide +kernel
theorem dX6_nearest_20 : decode cX6_nearest 20 = .ok (.ldc2_w 183, 3) := by decide +kernel
theorem dX6_nearest_23 : decode cX6_nearest 23 = .ok (.lload_n 2, 1) := by decide +kernel
theorem dX6_nearest_24 : decode cX6_nearest 24 = .ok (.lmul, 1) := by decide +kernel
theorem dX6_nearest_25 : decode cX6_nearest 25 = .ok (.ldiv, 1) := by decide +kernel
theorem dX6_nearest_26 : decode cX6_nearest 26 = .ok (.lstore 4, 2) := by decide +kernel
theorem dX6_nearest_28 : decode cX6_nearest 28 = .ok (.lload_n 0, 1) := by decide +kernel
theorem dX6_nearest_29 : decode cX6_nearest 29 = .ok (.lconst 0, 1) := by decide +kernel
theorem dX6_nearest_30 : decode cX6_nearest 30 = .ok (.lcmp, 1) := by decide +kernel
theorem dX6_nearest_31 : decode cX6_nearest 31 = .ok (.ifCond .ge 9, 3) := by decide +kernel
theorem dX6_nearest_34 : decode cX6_nearest 34 = .ok (.lload 4, 2) := by decide +kernel
theorem dX6_nearest_36 : decode cX6_nearest 36 = .ok (.lneg, 1) := by decide +kernel
theorem dX6_nearest_37 : decode cX6_nearest 37 = .ok (.goto 5, 3) := by decide +kernel
theorem dX6_nearest_40 : decode cX6_nearest 40 = .ok (.lload 4, 2) := by decide +kernel
theorem dX6_nearest_42 : decode cX6_nearest 42 = .ok (.lreturn, 1) := by decide +kernel
theorem dX6_findHeads_0 : decode cX6_findHeads 0 = .ok (.aload_n 0, 1) := by decide +kernel
theorem dX6_findHeads_1 : decode cX6_findHeads 1 = .ok (.getfield 36, 3) := by decide +kernel
theorem dX6_findHeads_4 : decode cX6_findHeads 4 = .ok (.iconst 0, 1) := by decide +kernel
theorem dX6_findHeads_5 : decode cX6_findHeads 5 = .ok (.ldc2_w 189, 3) := by decide +kernel
theorem dX6_findHeads_8 : decode cX6_findHeads 8 = .ok (.aload_n 0, 1) := by decide +kernel
theorem dX6_findHeads_9 : decode cX6_findHeads 9 = .ok (.getfield 12, 3) := by decide +kernel
theorem dX6_findHeads_12 : decode cX6_findHeads 12 = .ok (.getfield 191, 3) := by decide +kernel
theorem dX6_findHeads_15 : decode cX6_findHeads 15 = .ok (.i2l, 1) := by decide +kernel
theorem dX6_findHeads_16 : decode cX6_findHeads 16 = .ok (.lmul, 1) := by decide +kernel
theorem dX6_findHeads_17 : decode cX6_findHeads 17 = .ok (.lastore, 1) := by decide +kernel
theorem dX6_findHeads_18 : decode cX6_findHeads 18 = .ok (.iconst 1, 1) := by decide +kernel
theorem dX6_findHeads_19 : decode cX6_findHeads 19 = .ok (.istore_n 1, 1) := by decide +kernel
theorem dX6_findHeads_20 : decode cX6_findHeads 20 = .ok (.iload_n 1, 1) := by decide +kernel
theorem dX6_findHeads_21 : decode cX6_findHeads 21 = .ok (.aload_n 0, 1) := by decide +kernel
theorem dX6_findHeads_22 : decode cX6_findHeads 22 = .ok (.getfield 21, 3) := by decide +kernel
theorem dX6_findHeads_25 : decode cX6_findHeads 25 = .ok (.getfield 100, 3) := by decide +kernel
theorem dX6_findHeads_28 : decode cX6_findHeads 28 = .ok (.if_icmp .ge 79, 3) := by decide +kernel
theorem dX6_findHeads_31 : decode cX6_findHeads 31 = .ok (.aload_n 0, 1) := by decide +kernel
theorem dX6_findHeads_32 : decode cX6_findHeads 32 = .ok (.getfield 21, 3) := by decide +kernel
theorem dX6_findHeads_35 : decode cX6_findHeads 35 = .ok (.getfield 103, 3) := by decide +kernel
theorem dX6_findHeads_38 : decode cX6_findHeads 38 = .ok (.iload_n 1, 1) := by decide +kernel
theorem dX6_findHeads_39 : decode cX6_findHeads 39 = .ok (.iaload, 1) := by decide +kernel
theorem dX6_findHeads_40 : decode cX6_findHeads 40 = .ok (.istore_n 2, 1) := by decide +kernel
theorem dX6_findHeads_41 : decode cX6_findHeads 41 = .ok (.aload_n 0, 1) := by decide +kernel
theorem dX6_findHeads_42 : decode cX6_findHeads 42 = .ok (.getfield 21, 3) := by decide +kernel
theorem dX6_findHeads_45 : decode cX6_findHeads 45 = .ok (.getfield 106, 3) := by decide +kernel
theorem dX6_findHeads_48 : decode cX6_findHeads 48 = .ok (.iload_n 2, 1) := by decide +kernel
theorem dX6_findHeads_49 : decode cX6_findHeads 49 = .ok (.iaload, 1) := by decide +kernel
theorem dX6_findHeads_50 : decode cX6_findHeads 50 = .ok (.istore_n 3, 1) := by decide +kernel
theorem dX6_findHeads_51 : decode cX6_findHeads 51 = .ok (.iload_n 3, 1) := by decide +kernel
theorem dX6_findHeads_52 : decode cX6_findHeads 52 = .ok (.ifCond .lt 49, 3) := by decide +kernel
theorem dX6_findHeads_55 : decode cX6_findHeads 55 = .ok (.aload_n 0, 1) := by decide +kernel
theorem dX6_findHeads_56 : decode cX6_findHeads 56 = .ok (.getfield 36, 3) := by decide +kernel
theorem dX6_findHeads_59 : decode cX6_findHeads 59 = .ok (.iload_n 2, 1) := by decide +kernel
theorem dX6_findHeads_60 : decode cX6_findHeads 60 = .ok (.aload_n 0, 1) := by decide +kernel
theorem dX6_findHeads_61 : decode cX6_findHeads 61 = .ok (.getfield 36, 3) := by decide +kernel
theorem dX6_findHeads_64 : decode cX6_findHeads 64 = .ok (.aload_n 0, 1) := by decide +kernel
theorem dX6_findHeads_65 : decode cX6_findHeads 65 = .ok (.getfield 21, 3) := by decide +kernel
theorem dX6_findHeads_68 : decode cX6_findHeads 68 = .ok (.getfield 112, 3) := by decide +kernel
theorem dX6_findHeads_71 : decode cX6_findHeads 71 = .ok (.iload_n 2, 1) := by decide +kernel
theorem dX6_findHeads_72 : decode cX6_findHeads 72 = .ok (.iaload, 1) := by decide +kernel
theorem dX6_findHeads_73 : decode cX6_findHeads 73 = .ok (.laload, 1) := by decide +kernel
theorem dX6_findHeads_74 : decode cX6_findHeads 74 = .ok (.aload_n 0, 1) := by decide +kernel
theorem dX6_findHeads_75 : decode cX6_findHeads 75 = .ok (.getfield 21, 3) := by decide +kernel
theorem dX6_findHeads_78 : decode cX6_findHeads 78 = .ok (.getfield 115, 3) := by decide +kernel
theorem dX6_findHeads_81 : decode cX6_findHeads 81 = .ok (.iload_n 2, 1) := by decide +kernel
theorem dX6_findHeads_82 : decode cX6_findHeads 82 = .ok (.iaload, 1) := by decide +kernel
theorem dX6_findHeads_83 : decode cX6_findHeads 83 = .ok (.i2l, 1) := by decide +kernel
theorem dX6_findHeads_84 : decode cX6_findHeads 84 = .ok (.aload_n 0, 1) := by decide +kernel
theorem dX6_findHeads_85 : decode cX6_findHeads 85 = .ok (.getfield 12, 3) := by decide +kernel
theorem dX6_findHeads_88 : decode cX6_findHeads 88 = .ok (.iload_n 3, 1) := by decide +kernel
theorem dX6_findHeads_89 : decode cX6_findHeads 89 = .ok (.aload_n 0, 1) := by decide +kernel
theorem dX6_findHeads_90 : decode cX6_findHeads 90 = .ok (.getfield 32, 3) := by decide +kernel
theorem dX6_findHeads_93 : decode cX6_findHeads 93 = .ok (.iload_n 3, 1) := by decide +kernel
theorem dX6_findHeads_94 : decode cX6_findHeads 94 = .ok (.laload, 1) := by decide +kernel
theorem dX6_findHeads_95 : decode cX6_findHeads 95 = .ok (.invokevirtual 176, 3) := by decide +kernel
theorem dX6_findHeads_98 : decode cX6_findHeads 98 = .ok (.lmul, 1) := by decide +kernel
theorem dX6_findHeads_99 : decode cX6_findHeads 99 = .ok (.lsub, 1) := by decide +kernel
theorem dX6_findHeads_100 : decode cX6_findHeads 100 = .ok (.lastore, 1) := by decide +kernel
theorem dX6_findHeads_101 : decode cX6_findHeads 101 = .ok (.iinc 1 1, 3) := by decide +kernel
theorem dX6_findHeads_104 : decode cX6_findHeads 104 = .ok (.goto (-84), 3) := by decide +kernel
theorem dX6_findHeads_107 : decode cX6_findHeads 107 = .ok (.return_, 1) := by decide +kernel
theorem dX6_edgeToTurn_0 : decode cX6_edgeToTurn 0 = .ok (.iconst 0, 1) := by decide +kernel
theorem dX6_edgeToTurn_1 : decode cX6_edgeToTurn 1 = .ok (.istore_n 1, 1) := by decide +kernel
theorem dX6_edgeToTurn_2 : decode cX6_edgeToTurn 2 = .ok (.iload_n 1, 1) := by decide +kernel
theorem dX6_edgeToTurn_3 : decode cX6_edgeToTurn 3 = .ok (.aload_n 0, 1) := by decide +kernel
theorem dX6_edgeToTurn_4 : decode cX6_edgeToTurn 4 = .ok (.getfield 12, 3) := by decide +kernel
theorem dX6_edgeToTurn_7 : decode cX6_edgeToTurn 7 = .ok (.getfield 83, 3) := by decide +kernel
theorem dX6_edgeToTurn_10 : decode cX6_edgeToTurn 10 = .ok (.if_icmp .ge 34, 3) := by decide +kernel
theorem dX6_edgeToTurn_13 : decode cX6_edgeToTurn 13 = .ok (.aload_n 0, 1) := by decide +kernel
theorem dX6_edgeToTurn_14 : decode cX6_edgeToTurn 14 = .ok (.getfield 12, 3) := by decide +kernel
theorem dX6_edgeToTurn_17 : decode cX6_edgeToTurn 17 = .ok (.getfield 194, 3) := by decide +kernel
theorem dX6_edgeToTurn_20 : decode cX6_edgeToTurn 20 = .ok (.iload_n 1, 1) := by decide +kernel
theorem dX6_edgeToTurn_21 : decode cX6_edgeToTurn 21 = .ok (.iaload, 1) := by decide +kernel
theorem dX6_edgeToTurn_22 : decode cX6_edgeToTurn 22 = .ok (.ifCond .eq 16, 3) := by decide +kernel
theorem dX6_edgeToTurn_25 : decode cX6_edgeToTurn 25 = .ok (.aload_n 0, 1) := by decide +kernel
theorem dX6_edgeToTurn_26 : decode cX6_edgeToTurn 26 = .ok (.getfield 32, 3) := by decide +kernel
theorem dX6_edgeToTurn_29 : decode cX6_edgeToTurn 29 = .ok (.iload_n 1, 1) := by decide +kernel
theorem dX6_edgeToTurn_30 : decode cX6_edgeToTurn 30 = .ok (.laload, 1) := by decide +kernel
theorem dX6_edgeToTurn_31 : decode cX6_edgeToTurn 31 = .ok (.lconst 0, 1) := by decide +kernel
theorem dX6_edgeToTurn_32 : decode cX6_edgeToTurn 32 = .ok (.lcmp, 1) := by decide +kernel
theorem dX6_edgeToTurn_33 : decode cX6_edgeToTurn 33 = .ok (.ifCond .ge 5, 3) := by decide +kernel
theorem dX6_edgeToTurn_36 : decode cX6_edgeToTurn 36 = .ok (.iload_n 1, 1) := by decide +kernel
theorem dX6_edgeToTurn_37 : decode cX6_edgeToTurn 37 = .ok (.ireturn, 1) := by decide +kernel
theorem dX6_edgeToTurn_38 : decode cX6_edgeToTurn 38 = .ok (.iinc 1 1, 3) := by decide +kernel
theorem dX6_edgeToTurn_41 : decode cX6_edgeToTurn 41 = .ok (.goto (-39), 3) := by decide +kernel
theorem dX6_edgeToTurn_44 : decode cX6_edgeToTurn 44 = .ok (.iconst 0, 1) := by decide +kernel
theorem dX6_edgeToTurn_45 : decode cX6_edgeToTurn 45 = .ok (.istore_n 1, 1) := by decide +kernel
theorem dX6_edgeToTurn_46 : decode cX6_edgeToTurn 46 = .ok (.iload_n 1, 1) := by decide +kernel
theorem dX6_edgeToTurn_47 : decode cX6_edgeToTurn 47 = .ok (.aload_n 0, 1) := by decide +kernel
theorem dX6_edgeToTurn_48 : decode cX6_edgeToTurn 48 = .ok (.getfield 12, 3) := by decide +kernel
theorem dX6_edgeToTurn_51 : decode cX6_edgeToTurn 51 = .ok (.getfield 83, 3) := by decide +kernel
theorem dX6_edgeToTurn_54 : decode cX6_edgeToTurn 54 = .ok (.if_icmp .ge 31, 3) := by decide +kernel
theorem dX6_edgeToTurn_57 : decode cX6_edgeToTurn 57 = .ok (.aload_n 0, 1) := by decide +kernel
theorem dX6_edgeToTurn_58 : decode cX6_edgeToTurn 58 = .ok (.getfield 49, 3) := by decide +kernel
theorem dX6_edgeToTurn_61 : decode cX6_edgeToTurn 61 = .ok (.iload_n 1, 1) := by decide +kernel
theorem dX6_edgeToTurn_62 : decode cX6_edgeToTurn 62 = .ok (.invokestatic 197, 3) := by decide +kernel
theorem dX6_edgeToTurn_65 : decode cX6_edgeToTurn 65 = .ok (.iconst 1, 1) := by decide +kernel
theorem dX6_edgeToTurn_66 : decode cX6_edgeToTurn 66 = .ok (.if_icmp .ne 13, 3) := by decide +kernel
theorem dX6_edgeToTurn_69 : decode cX6_edgeToTurn 69 = .ok (.aload_n 0, 1) := by decide +kernel
theorem dX6_edgeToTurn_70 : decode cX6_edgeToTurn 70 = .ok (.iload_n 1, 1) := by decide +kernel
theorem dX6_edgeToTurn_71 : decode cX6_edgeToTurn 71 = .ok (.invokevirtual 201, 3) := by decide +kernel
theorem dX6_edgeToTurn_74 : decode cX6_edgeToTurn 74 = .ok (.ifCond .eq 5, 3) := by decide +kernel
theorem dX6_edgeToTurn_77 : decode cX6_edgeToTurn 77 = .ok (.iload_n 1, 1) := by decide +kernel
theorem dX6_edgeToTurn_78 : decode cX6_edgeToTurn 78 = .ok (.ireturn, 1) := by decide +kernel
theorem dX6_edgeToTurn_79 : decode cX6_edgeToTurn 79 = .ok (.iinc 1 1, 3) := by decide +kernel
theorem dX6_edgeToTurn_82 : decode cX6_edgeToTurn 82 = .ok (.goto (-36), 3) := by decide +kernel
theorem dX6_edgeToTurn_85 : decode cX6_edgeToTurn 85 = .ok (.iconst (-1), 1) := by decide +kernel
theorem dX6_edgeToTurn_86 : decode cX6_edgeToTurn 86 = .ok (.ireturn, 1) := by decide +kernel
theorem dX6_wouldFlow_0 : decode cX6_wouldFlow 0 = .ok (.aload_n 0, 1) := by decide +kernel
theorem dX6_wouldFlow_1 : decode cX6_wouldFlow 1 = .ok (.getfield 12, 3) := by decide +kernel
theorem dX6_wouldFlow_4 : decode cX6_wouldFlow 4 = .ok (.getfield 205, 3) := by decide +kernel
theorem dX6_wouldFlow_7 : decode cX6_wouldFlow 7 = .ok (.iload_n 1, 1) := by decide +kernel
theorem dX6_wouldFlow_8 : decode cX6_wouldFlow 8 = .ok (.iaload, 1) := by decide +kernel
theorem dX6_wouldFlow_9 : decode cX6_wouldFlow 9 = .ok (.istore_n 2, 1) := by decide +kernel
theorem dX6_wouldFlow_10 : decode cX6_wouldFlow 10 = .ok (.aload_n 0, 1) := by decide +kernel
theorem dX6_wouldFlow_11 : decode cX6_wouldFlow 11 = .ok (.getfield 12, 3) := by decide +kernel
theorem dX6_wouldFlow_14 : decode cX6_wouldFlow 14 = .ok (.getfield 208, 3) := by decide +kernel
theorem dX6_wouldFlow_17 : decode cX6_wouldFlow 17 = .ok (.iload_n 1, 1) := by decide +kernel
theorem dX6_wouldFlow_18 : decode cX6_wouldFlow 18 = .ok (.iaload, 1) := by decide +kernel
theorem dX6_wouldFlow_19 : decode cX6_wouldFlow 19 = .ok (.istore_n 3, 1) := by decide +kernel
theorem dX6_wouldFlow_20 : decode cX6_wouldFlow 20 = .ok (.aload_n 0, 1) := by decide +kernel
theorem dX6_wouldFlow_21 : decode cX6_wouldFlow 21 = .ok (.getfield 21, 3) := by decide +kernel
theorem dX6_wouldFlow_24 : decode cX6_wouldFlow 24 = .ok (.getfield 211, 3) := by decide +kernel
theorem dX6_wouldFlow_27 : decode cX6_wouldFlow 27 = .ok (.iload_n 2, 1) := by decide +kernel
theorem dX6_wouldFlow_28 : decode cX6_wouldFlow 28 = .ok (.invokestatic 197, 3) := by decide +kernel
theorem dX6_wouldFlow_31 : decode cX6_wouldFlow 31 = .ok (.ifCond .ne 5, 3) := by decide +kernel
theorem dX6_wouldFlow_34 : decode cX6_wouldFlow 34 = .ok (.iconst 0, 1) := by decide +kernel
theorem dX6_wouldFlow_35 : decode cX6_wouldFlow 35 = .ok (.ireturn, 1) := by decide +kernel
theorem dX6_wouldFlow_36 : decode cX6_wouldFlow 36 = .ok (.aload_n 0, 1) := by decide +kernel
theorem dX6_wouldFlow_37 : decode cX6_wouldFlow 37 = .ok (.getfield 21, 3) := by decide +kernel
theorem dX6_wouldFlow_40 : decode cX6_wouldFlow 40 = .ok (.getfield 211, 3) := by decide +kernel
theorem dX6_wouldFlow_43 : decode cX6_wouldFlow 43 = .ok (.iload_n 3, 1) := by decide +kernel
theorem dX6_wouldFlow_44 : decode cX6_wouldFlow 44 = .ok (.invokestatic 197, 3) := by decide +kernel
theorem dX6_wouldFlow_47 : decode cX6_wouldFlow 47 = .ok (.ifCond .eq 29, 3) := by decide +kernel
theorem dX6_wouldFlow_50 : decode cX6_wouldFlow 50 = .ok (.aload_n 0, 1) := by decide +kernel
theorem dX6_wouldFlow_51 : decode cX6_wouldFlow 51 = .ok (.getfield 36, 3) := by decide +kernel
theorem dX6_wouldFlow_54 : decode cX6_wouldFlow 54 = .ok (.iload_n 3, 1) := by decide +kernel
theorem dX6_wouldFlow_55 : decode cX6_wouldFlow 55 = .ok (.laload, 1) := by decide +kernel
theorem dX6_wouldFlow_56 : decode cX6_wouldFlow 56 = .ok (.aload_n 0, 1) := by decide +kernel
theorem dX6_wouldFlow_57 : decode cX6_wouldFlow 57 = .ok (.getfield 36, 3) := by decide +kernel
theorem dX6_wouldFlow_60 : decode cX6_wouldFlow 60 = .ok (.iload_n 2, 1) := by decide +kernel
theorem dX6_wouldFlow_61 : decode cX6_wouldFlow 61 = .ok (.laload, 1) := by decide +kernel
theorem dX6_wouldFlow_62 : decode cX6_wouldFlow 62 = .ok (.aload_n 0, 1) := by decide +kernel
theorem dX6_wouldFlow_63 : decode cX6_wouldFlow 63 = .ok (.getfield 12, 3) := by decide +kernel
theorem dX6_wouldFlow_66 : decode cX6_wouldFlow 66 = .ok (.iload_n 1, 1) := by decide +kernel
theorem dX6_wouldFlow_67 : decode cX6_wouldFlow 67 = .ok (.lconst 0, 1) := by decide +kernel
theorem dX6_wouldFlow_68 : decode cX6_wouldFlow 68 = .ok (.invokevirtual 176, 3) := by decide +kernel
theorem dX6_wouldFlow_71 : decode cX6_wouldFlow 71 = .ok (.lsub, 1) := by decide +kernel
theorem dX6_wouldFlow_72 : decode cX6_wouldFlow 72 = .ok (.lcmp, 1) := by decide +kernel
theorem dX6_wouldFlow_73 : decode cX6_wouldFlow 73 = .ok (.ifCond .ge 7, 3) := by decide +kernel
theorem dX6_wouldFlow_76 : decode cX6_wouldFlow 76 = .ok (.iconst 1, 1) := by decide +kernel
theorem dX6_wouldFlow_77 : decode cX6_wouldFlow 77 = .ok (.goto 4, 3) := by decide +kernel
theorem dX6_wouldFlow_80 : decode cX6_wouldFlow 80 = .ok (.iconst 0, 1) := by decide +kernel
theorem dX6_wouldFlow_81 : decode cX6_wouldFlow 81 = .ok (.ireturn, 1) := by decide +kernel
theorem dX6_dryJoints_0 : decode cX6_dryJoints 0 = .ok (.iconst 1, 1) := by decide +kernel
theorem dX6_dryJoints_1 : decode cX6_dryJoints 1 = .ok (.aload_n 0, 1) := by decide +kernel
theorem dX6_dryJoints_2 : decode cX6_dryJoints 2 = .ok (.getfield 12, 3) := by decide +kernel
theorem dX6_dryJoints_5 : decode cX6_dryJoints 5 = .ok (.getfield 214, 3) := by decide +kernel
theorem dX6_dryJoints_8 : decode cX6_dryJoints 8 = .ok (.ishl, 1) := by decide +kernel
theorem dX6_dryJoints_9 : decode cX6_dryJoints 9 = .ok (.iconst 1, 1) := by decide +kernel
theorem dX6_dryJoints_10 : decode cX6_dryJoints 10 = .ok (.isub, 1) := by decide +kernel
theorem dX6_dryJoints_11 : decode cX6_dryJoints 11 = .ok (.aload_n 0, 1) := by decide +kernel
theorem dX6_dryJoints_12 : decode cX6_dryJoints 12 = .ok (.getfield 21, 3) := by decide +kernel
theorem dX6_dryJoints_15 : decode cX6_dryJoints 15 = .ok (.getfield 211, 3) := by decide +kernel
theorem dX6_dryJoints_18 : decode cX6_dryJoints 18 = .ok (.iconst (-1), 1) := by decide +kernel
theorem dX6_dryJoints_19 : decode cX6_dryJoints 19 = .ok (.ixor, 1) := by decide +kernel
theorem dX6_dryJoints_20 : decode cX6_dryJoints 20 = .ok (.iand, 1) := by decide +kernel
theorem dX6_dryJoints_21 : decode cX6_dryJoints 21 = .ok (.ireturn, 1) := by decide +kernel
theorem dX6_given_0 : decode cX6_given 0 = .ok (.iconst 0, 1) := by decide +kernel
theorem dX6_given_1 : decode cX6_given 1 = .ok (.istore_n 1, 1) := by decide +kernel
theorem dX6_given_2 : decode cX6_given 2 = .ok (.iconst 0, 1) := by decide +kernel
theorem dX6_given_3 : decode cX6_given 3 = .ok (.istore_n 2, 1) := by decide +kernel
theorem dX6_given_4 : decode cX6_given 4 = .ok (.iload_n 2, 1) := by decide +kernel
