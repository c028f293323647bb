theorem dX4_init_0 : decode cX4_init 0 = .ok (.aload_n 0, 1) := by decide +kernel
theorem dX4_init_1 : decode cX4_init 1 = .ok (.invokespecial 3, 3) := by decide +kernel
theorem dX4_init_4 : decode cX4_init 4 = .ok (.aload_n 0, 1) := by decide +kernel
theorem dX4_init_5 : decode cX4_init 5 = .ok (.bipush 14, 2) := by decide +kernel
theorem dX4_init_7 : decode cX4_init 7 = .ok (.newarray .int, 2) := by decide +kernel
theorem dX4_init_9 : decode cX4_init 9 = .ok (.putfield 9, 3) := by decide +kernel
theorem dX4_init_12 : decode cX4_init 12 = .ok (.aload_n 0, 1) := by decide +kernel
theorem dX4_init_13 : decode cX4_init 13 = .ok (.bipush 126, 2) := by decide +kernel
theorem dX4_init_15 : decode cX4_init 15 = .ok (.newarray .int, 2) := by decide +kernel
theorem dX4_init_17 : decode cX4_init 17 = .ok (.putfield 15, 3) := by decide +kernel
theorem dX4_init_20 : decode cX4_init 20 = .ok (.aload_n 0, 1) := by decide +kernel
theorem dX4_init_21 : decode cX4_init 21 = .ok (.bipush 126, 2) := by decide +kernel
theorem dX4_init_23 : decode cX4_init 23 = .ok (.newarray .int, 2) := by decide +kernel
theorem dX4_init_25 : decode cX4_init 25 = .ok (.putfield 18, 3) := by decide +kernel
theorem dX4_init_28 : decode cX4_init 28 = .ok (.aload_n 0, 1) := by decide +kernel
theorem dX4_init_29 : decode cX4_init 29 = .ok (.bipush 9, 2) := by decide +kernel
theorem dX4_init_31 : decode cX4_init 31 = .ok (.newarray .int, 2) := by decide +kernel
theorem dX4_init_33 : decode cX4_init 33 = .ok (.putfield 21, 3) := by decide +kernel
theorem dX4_init_36 : decode cX4_init 36 = .ok (.return_, 1) := by decide +kernel
theorem dX4_find_0 : decode cX4_find 0 = .ok (.aload_n 0, 1) := by decide +kernel
theorem dX4_find_1 : decode cX4_find 1 = .ok (.iconst 0, 1) := by decide +kernel
theorem dX4_find_2 : decode cX4_find 2 = .ok (.putfield 24, 3) := by decide +kernel
theorem dX4_find_5 : decode cX4_find 5 = .ok (.iload_n 3, 1) := by decide +kernel
theorem dX4_find_6 : decode cX4_find 6 = .ok (.aload_n 2, 1) := by decide +kernel
theorem dX4_find_7 : decode cX4_find 7 = .ok (.getfield 28, 3) := by decide +kernel
theorem dX4_find_10 : decode cX4_find 10 = .ok (.iconst (-1), 1) := by decide +kernel
theorem dX4_find_11 : decode cX4_find 11 = .ok (.ixor, 1) := by decide +kernel
theorem dX4_find_12 : decode cX4_find 12 = .ok (.iand, 1) := by decide +kernel
theorem dX4_find_13 : decode cX4_find 13 = .ok (.istore 4, 2) := by decide +kernel
theorem dX4_find_15 : decode cX4_find 15 = .ok (.iconst 0, 1) := by decide +kernel
theorem dX4_find_16 : decode cX4_find 16 = .ok (.istore 5, 2) := by decide +kernel
theorem dX4_find_18 : decode cX4_find 18 = .ok (.iload 5, 2) := by decide +kernel
theorem dX4_find_20 : decode cX4_find 20 = .ok (.aload_n 1, 1) := by decide +kernel
theorem dX4_find_21 : decode cX4_find 21 = .ok (.getfield 33, 3) := by decide +kernel
theorem dX4_find_24 : decode cX4_find 24 = .ok (.if_icmp .ge 84, 3) := by decide +kernel
theorem dX4_find_27 : decode cX4_find 27 = .ok (.iload 4, 2) := by decide +kernel
theorem dX4_find_29 : decode cX4_find 29 = .ok (.iload 5, 2) := by decide +kernel
theorem dX4_find_31 : decode cX4_find 31 = .ok (.invokestatic 36, 3) := by decide +kernel
theorem dX4_find_34 : decode cX4_find 34 = .ok (.iconst 1, 1) := by decide +kernel
theorem dX4_find_35 : decode cX4_find 35 = .ok (.if_icmp .ne 67, 3) := by decide +kernel
theorem dX4_find_38 : decode cX4_find 38 = .ok (.aload_n 2, 1) := by decide +kernel
theorem dX4_find_39 : decode cX4_find 39 = .ok (.getfield 40, 3) := by decide +kernel
theorem dX4_find_42 : decode cX4_find 42 = .ok (.aload_n 1, 1) := by decide +kernel
theorem dX4_find_43 : decode cX4_find 43 = .ok (.getfield 43, 3) := by decide +kernel
theorem dX4_find_46 : decode cX4_find 46 = .ok (.iload 5, 2) := by decide +kernel
theorem dX4_find_48 : decode cX4_find 48 = .ok (.iaload, 1) := by decide +kernel
theorem dX4_find_49 : decode cX4_find 49 = .ok (.invokestatic 36, 3) := by decide +kernel
theorem dX4_find_52 : decode cX4_find 52 = .ok (.iconst 1, 1) := by decide +kernel
theorem dX4_find_53 : decode cX4_find 53 = .ok (.if_icmp .ne 49, 3) := by decide +kernel
theorem dX4_find_56 : decode cX4_find 56 = .ok (.aload_n 0, 1) := by decide +kernel
theorem dX4_find_57 : decode cX4_find 57 = .ok (.getfield 9, 3) := by decide +kernel
theorem dX4_find_60 : decode cX4_find 60 = .ok (.aload_n 0, 1) := by decide +kernel
theorem dX4_find_61 : decode cX4_find 61 = .ok (.getfield 24, 3) := by decide +kernel
theorem dX4_find_64 : decode cX4_find 64 = .ok (.iconst 0, 1) := by decide +kernel
theorem dX4_find_65 : decode cX4_find 65 = .ok (.iastore, 1) := by decide +kernel
theorem dX4_find_66 : decode cX4_find 66 = .ok (.aload_n 0, 1) := by decide +kernel
theorem dX4_find_67 : decode cX4_find 67 = .ok (.iload 5, 2) := by decide +kernel
theorem dX4_find_69 : decode cX4_find 69 = .ok (.iconst 1, 1) := by decide +kernel
theorem dX4_find_70 : decode cX4_find 70 = .ok (.invokevirtual 46, 3) := by decide +kernel
theorem dX4_find_73 : decode cX4_find 73 = .ok (.aload_n 0, 1) := by decide +kernel
theorem dX4_find_74 : decode cX4_find 74 = .ok (.aload_n 2, 1) := by decide +kernel
theorem dX4_find_75 : decode cX4_find 75 = .ok (.aload_n 1, 1) := by decide +kernel
theorem dX4_find_76 : decode cX4_find 76 = .ok (.getfield 50, 3) := by decide +kernel
theorem dX4_find_79 : decode cX4_find 79 = .ok (.iload 5, 2) := by decide +kernel
theorem dX4_find_81 : decode cX4_find 81 = .ok (.iaload, 1) := by decide +kernel
theorem dX4_find_82 : decode cX4_find 82 = .ok (.aload_n 1, 1) := by decide +kernel
theorem dX4_find_83 : decode cX4_find 83 = .ok (.getfield 43, 3) := by decide +kernel
theorem dX4_find_86 : decode cX4_find 86 = .ok (.iload 5, 2) := by decide +kernel
theorem dX4_find_88 : decode cX4_find 88 = .ok (.iaload, 1) := by decide +kernel
theorem dX4_find_89 : decode cX4_find 89 = .ok (.invokevirtual 53, 3) := by decide +kernel
theorem dX4_find_92 : decode cX4_find 92 = .ok (.aload_n 0, 1) := by decide +kernel
theorem dX4_find_93 : decode cX4_find 93 = .ok (.dup, 1) := by decide +kernel
theorem dX4_find_94 : decode cX4_find 94 = .ok (.getfield 24, 3) := by decide +kernel
theorem dX4_find_97 : decode cX4_find 97 = .ok (.iconst 1, 1) := by decide +kernel
theorem dX4_find_98 : decode cX4_find 98 = .ok (.iadd, 1) := by decide +kernel
theorem dX4_find_99 : decode cX4_find 99 = .ok (.putfield 24, 3) := by decide +kernel
theorem dX4_find_102 : decode cX4_find 102 = .ok (.iinc 5 1, 3) := by decide +kernel
theorem dX4_find_105 : decode cX4_find 105 = .ok (.goto (-87), 3) := by decide +kernel
theorem dX4_find_108 : decode cX4_find 108 = .ok (.return_, 1) := by decide +kernel
theorem dX4_followTree_0 : decode cX4_followTree 0 = .ok (.iload_n 2, 1) := by decide +kernel
theorem dX4_followTree_1 : decode cX4_followTree 1 = .ok (.istore 4, 2) := by decide +kernel
theorem dX4_followTree_3 : decode cX4_followTree 3 = .ok (.iload_n 3, 1) := by decide +kernel
theorem dX4_followTree_4 : decode cX4_followTree 4 = .ok (.istore 5, 2) := by decide +kernel
theorem dX4_followTree_6 : decode cX4_followTree 6 = .ok (.iconst 0, 1) := by decide +kernel
theorem dX4_followTree_7 : decode cX4_followTree 7 = .ok (.istore 6, 2) := by decide +kernel
theorem dX4_followTree_9 : decode cX4_followTree 9 = .ok (.iconst 0, 1) := by decide +kernel
theorem dX4_followTree_10 : decode cX4_followTree 10 = .ok (.istore 7, 2) := by decide +kernel
theorem dX4_followTree_12 : decode cX4_followTree 12 = .ok (.iload 7, 2) := by decide +kernel
theorem dX4_followTree_14 : decode cX4_followTree 14 = .ok (.bipush 18, 2) := by decide +kernel
theorem dX4_followTree_16 : decode cX4_followTree 16 = .ok (.if_icmp .ge 92, 3) := by decide +kernel
theorem dX4_followTree_19 : decode cX4_followTree 19 = .ok (.iload 4, 2) := by decide +kernel
theorem dX4_followTree_21 : decode cX4_followTree 21 = .ok (.iload 5, 2) := by decide +kernel
theorem dX4_followTree_23 : decode cX4_followTree 23 = .ok (.if_icmp .eq 85, 3) := by decide +kernel
theorem dX4_followTree_26 : decode cX4_followTree 26 = .ok (.aload_n 1, 1) := by decide +kernel
theorem dX4_followTree_27 : decode cX4_followTree 27 = .ok (.getfield 57, 3) := by decide +kernel
theorem dX4_followTree_30 : decode cX4_followTree 30 = .ok (.iload 4, 2) := by decide +kernel
theorem dX4_followTree_32 : decode cX4_followTree 32 = .ok (.iaload, 1) := by decide +kernel
theorem dX4_followTree_33 : decode cX4_followTree 33 = .ok (.aload_n 1, 1) := by decide +kernel
theorem dX4_followTree_34 : decode cX4_followTree 34 = .ok (.getfield 57, 3) := by decide +kernel
theorem dX4_followTree_37 : decode cX4_followTree 37 = .ok (.iload 5, 2) := by decide +kernel
theorem dX4_followTree_39 : decode cX4_followTree 39 = .ok (.iaload, 1) := by decide +kernel
theorem dX4_followTree_40 : decode cX4_followTree 40 = .ok (.if_icmp .lt 34, 3) := by decide +kernel
theorem dX4_followTree_43 : decode cX4_followTree 43 = .ok (.aload_n 0, 1) := by decide +kernel
theorem dX4_followTree_44 : decode cX4_followTree 44 = .ok (.aload_n 1, 1) := by decide +kernel
theorem dX4_followTree_45 : decode cX4_followTree 45 = .ok (.getfield 60, 3) := by decide +kernel
theorem dX4_followTree_48 : decode cX4_followTree 48 = .ok (.iload 4, 2) := by decide +kernel
theorem dX4_followTree_50 : decode cX4_followTree 50 = .ok (.iaload, 1) := by decide +kernel
theorem dX4_followTree_51 : decode cX4_followTree 51 = .ok (.aload_n 1, 1) := by decide +kernel
theorem dX4_followTree_52 : decode cX4_followTree 52 = .ok (.getfield 63, 3) := by decide +kernel
theorem dX4_followTree_55 : decode cX4_followTree 55 = .ok (.iload 4, 2) := by decide +kernel
theorem dX4_followTree_57 : decode cX4_followTree 57 = .ok (.iaload, 1) := by decide +kernel
theorem dX4_followTree_58 : decode cX4_followTree 58 = .ok (.ineg, 1) := by decide +kernel
theorem dX4_followTree_59 : decode cX4_followTree 59 = .ok (.invokevirtual 46, 3) := by decide +kernel
theorem dX4_followTree_62 : decode cX4_followTree 62 = .ok (.aload_n 1, 1) := by decide +kernel
theorem dX4_followTree_63 : decode cX4_followTree 63 = .ok (.getfield 64, 3) := by decide +kernel
theorem dX4_followTree_66 : decode cX4_followTree 66 = .ok (.iload 4, 2) := by decide +kernel
theorem dX4_followTree_68 : decode cX4_followTree 68 = .ok (.iaload, 1) := by decide +kernel
theorem dX4_followTree_69 : decode cX4_followTree 69 = .ok (.istore 4, 2) := by decide +kernel
theorem dX4_followTree_71 : decode cX4_followTree 71 = .ok (.goto 31, 3) := by decide +kernel
theorem dX4_followTree_74 : decode cX4_followTree 74 = .ok (.iload 6, 2) := by decide +kernel
theorem dX4_followTree_76 : decode cX4_followTree 76 = .ok (.bipush 9, 2) := by decide +kernel
theorem dX4_followTree_78 : decode cX4_followTree 78 = .ok (.if_icmp .ge 24, 3) := by decide +kernel
theorem dX4_followTree_81 : decode cX4_followTree 81 = .ok (.aload_n 0, 1) := by decide +kernel
theorem dX4_followTree_82 : decode cX4_followTree 82 = .ok (.getfield 21, 3) := by decide +kernel
theorem dX4_followTree_85 : decode cX4_followTree 85 = .ok (.iload 6, 2) := by decide +kernel
theorem dX4_followTree_87 : decode cX4_followTree 87 = .ok (.iload 5, 2) := by decide +kernel
theorem dX4_followTree_89 : decode cX4_followTree 89 = .ok (.iastore, 1) := by decide +kernel
theorem dX4_followTree_90 : decode cX4_followTree 90 = .ok (.iinc 6 1, 3) := by decide +kernel
theorem dX4_followTree_93 : decode cX4_followTree 93 = .ok (.aload_n 1, 1) := by decide +kernel
theorem dX4_followTree_94 : decode cX4_followTree 94 = .ok (.getfield 64, 3) := by decide +kernel
theorem dX4_followTree_97 : decode cX4_followTree 97 = .ok (.iload 5, 2) := by decide +kernel
theorem dX4_followTree_99 : decode cX4_followTree 99 = .ok (.iaload, 1) := by decide +kernel
theorem dX4_followTree_100 : decode cX4_followTree 100 = .ok (.istore 5, 2) := by decide +kernel
theorem dX4_followTree_102 : decode cX4_followTree 102 = .ok (.iinc 7 1, 3) := by decide +kernel
theorem dX4_followTree_105 : decode cX4_followTree 105 = .ok (.goto (-93), 3) := by decide +kernel
theorem dX4_followTree_108 : decode cX4_followTree 108 = .ok (.iload 6, 2) := by decide +kernel
theorem dX4_followTree_110 : decode cX4_followTree 110 = .ok (.iconst 1, 1) := by decide +kernel
theorem dX4_followTree_111 : decode cX4_followTree 111 = .ok (.isub, 1) := by decide +kernel
theorem dX4_followTree_112 : decode cX4_followTree 112 = .ok (.istore 7, 2) := by decide +kernel
theorem dX4_followTree_114 : decode cX4_followTree 114 = .ok (.iload 7, 2) := by decide +kernel
theorem dX4_followTree_116 : decode cX4_followTree 116 = .ok (.ifCond .lt 37, 3) := by decide +kernel
theorem dX4_followTree_119 : decode cX4_followTree 119 = .ok (.aload_n 0, 1) := by decide +kernel
theorem dX4_followTree_120 : decode cX4_followTree 120 = .ok (.aload_n 1, 1) := by decide +kernel
theorem dX4_followTree_121 : decode cX4_followTree 121 = .ok (.getfield 60, 3) := by decide +kernel
theorem dX4_followTree_124 : decode cX4_followTree 124 = .ok (.aload_n 0, 1) := by decide +kernel
theorem dX4_followTree_125 : decode cX4_followTree 125 = .ok (.getfield 21, 3) := by decide +kernel
theorem dX4_followTree_128 : decode cX4_followTree 128 = .ok (.iload 7, 2) := by decide +kernel
theorem dX4_followTree_130 : decode cX4_followTree 130 = .ok (.iaload, 1) := by decide +kernel
theorem dX4_followTree_131 : decode cX4_followTree 131 = .ok (.iaload, 1) := by decide +kernel
theorem dX4_followTree_132 : decode cX4_followTree 132 = .ok (.aload_n 1, 1) := by decide +kernel
theorem dX4_followTree_133 : decode cX4_followTree 133 = .ok (.getfield 63, 3) := by decide +kernel
theorem dX4_followTree_136 : decode cX4_followTree 136 = .ok (.aload_n 0, 1) := by decide +kernel
theorem dX4_followTree_137 : decode cX4_followTree 137 = .ok (.getfield 21, 3) := by decide +kernel
theorem dX4_followTree_140 : decode cX4_followTree 140 = .ok (.iload 7, 2) := by decide +kernel
theorem dX4_followTree_142 : decode cX4_followTree 142 = .ok (.iaload, 1) := by decide +kernel
theorem dX4_followTree_143 : decode cX4_followTree 143 = .ok (.iaload, 1) := by decide +kernel
theorem dX4_followTree_144 : decode cX4_followTree 144 = .ok (.invokevirtual 46, 3) := by decide +kernel
theorem dX4_followTree_147 : decode cX4_followTree 147 = .ok (.iinc 7 (-1), 3) := by decide +kernel
theorem dX4_followTree_150 : decode cX4_followTree 150 = .ok (.goto (-36), 3) := by decide +kernel
theorem dX4_followTree_153 : decode cX4_followTree 153 = .ok (.return_, 1) := by decide +kernel
theorem dX4_add_0 : decode cX4_add 0 = .ok (.aload_n 0, 1) := by decide +kernel
theorem dX4_add_1 : decode cX4_add 1 = .ok (.getfield 9, 3) := by decide +kernel
theorem dX4_add_4 : decode cX4_add 4 = .ok (.aload_n 0, 1) := by decide +kernel
theorem dX4_add_5 : decode cX4_add 5 = .ok (.getfield 24, 3) := by decide +kernel
theorem dX4_add_8 : decode cX4_add 8 = .ok (.iaload, 1) := by decide +kernel
theorem dX4_add_9 : decode cX4_add 9 = .ok (.istore_n 3, 1) := by decide +kernel
theorem dX4_add_10 : decode cX4_add 10 = .ok (.iload_n 1, 1) := by decide +kernel
theorem dX4_add_11 : decode cX4_add 11 = .ok (.ifCond .lt 51, 3) := by decide +kernel
theorem dX4_add_14 : decode cX4_add 14 = .ok (.iload_n 3, 1) := by decide +kernel
theorem dX4_add_15 : decode cX4_add 15 = .ok (.bipush 9, 2) := by decide +kernel
theorem dX4_add_17 : decode cX4_add 17 = .ok (.if_icmp .ge 45, 3) := by decide +kernel
theorem dX4_add_20 : decode cX4_add 20 = .ok (.aload_n 0, 1) := by decide +kernel
theorem dX4_add_21 : decode cX4_add 21 = .ok (.getfield 15, 3) := by decide +kernel
theorem dX4_add_24 : decode cX4_add 24 = .ok (.aload_n 0, 1) := by decide +kernel
theorem dX4_add_25 : decode cX4_add 25 = .ok (.getfield 24, 3) := by decide +kernel
theorem dX4_add_28 : decode cX4_add 28 = .ok (.bipush 9, 2) := by decide +kernel
theorem dX4_add_30 : decode cX4_add 30 = .ok (.imul, 1) := by decide +kernel
theorem dX4_add_31 : decode cX4_add 31 = .ok (.iload_n 3, 1) := by decide +kernel
theorem dX4_add_32 : decode cX4_add 32 = .ok (.iadd, 1) := by decide +kernel
theorem dX4_add_33 : decode cX4_add 33 = .ok (.iload_n 1, 1) := by decide +kernel
theorem dX4_add_34 : decode cX4_add 34 = .ok (.iastore, 1) := by decide +kernel
theorem dX4_add_35 : decode cX4_add 35 = .ok (.aload_n 0, 1) := by decide +kernel
theorem dX4_add_36 : decode cX4_add 36 = .ok (.getfield 18, 3) := by decide +kernel
theorem dX4_add_39 : decode cX4_add 39 = .ok (.aload_n 0, 1) := by decide +kernel
theorem dX4_add_40 : decode cX4_add 40 = .ok (.getfield 24, 3) := by decide +kernel
theorem dX4_add_43 : decode cX4_add 43 = .ok (.bipush 9, 2) := by decide +kernel
theorem dX4_add_45 : decode cX4_add 45 = .ok (.imul, 1) := by decide +kernel
theorem dX4_add_46 : decode cX4_add 46 = .ok (.iload_n 3, 1) := by decide +kernel
theorem dX4_add_47 : decode cX4_add 47 = .ok (.iadd, 1) := by decide +kernel
theorem dX4_add_48 : decode cX4_add 48 = .ok (.iload_n 2, 1) := by decide +kernel
theorem dX4_add_49 : decode cX4_add 49 = .ok (.iastore, 1) := by decide +kernel
theorem dX4_add_50 : decode cX4_add 50 = .ok (.aload_n 0, 1) := by decide +kernel
theorem dX4_add_51 : decode cX4_add 51 = .ok (.getfield 9, 3) := by decide +kernel
theorem dX4_add_54 : decode cX4_add 54 = .ok (.aload_n 0, 1) := by decide +kernel
theorem dX4_add_55 : decode cX4_add 55 = .ok (.getfield 24, 3) := by decide +kernel
theorem dX4_add_58 : decode cX4_add 58 = .ok (.iload_n 3, 1) := by decide +kernel
theorem dX4_add_59 : decode cX4_add 59 = .ok (.iconst 1, 1) := by decide +kernel
theorem dX4_add_60 : decode cX4_add 60 = .ok (.iadd, 1) := by decide +kernel
theorem dX4_add_61 : decode cX4_add 61 = .ok (.iastore, 1) := by decide +kernel
theorem dX4_add_62 : decode cX4_add 62 = .ok (.return_, 1) := by decide +kernel
theorem dX4_member_0 : decode cX4_member 0 = .ok (.iload_n 2, 1) := by decide +kernel
theorem dX4_member_1 : decode cX4_member 1 = .ok (.aload_n 0, 1) := by decide +kernel
theorem dX4_member_2 : decode cX4_member 2 = .ok (.getfield 9, 3) := by decide +kernel
theorem dX4_member_5 : decode cX4_member 5 = .ok (.iload_n 1, 1) := by decide +kernel
theorem dX4_member_6 : decode cX4_member 6 = .ok (.iaload, 1) := by decide +kernel
theorem dX4_member_7 : decode cX4_member 7 = .ok (.if_icmp .ge 17, 3) := by decide +kernel
theorem dX4_member_10 : decode cX4_member 10 = .ok (.aload_n 0, 1) := by decide +kernel
theorem dX4_member_11 : decode cX4_member 11 = .ok (.getfield 15, 3) := by decide +kernel
theorem dX4_member_14 : decode cX4_member 14 = .ok (.iload_n 1, 1) := by decide +kernel
theorem dX4_member_15 : decode cX4_member 15 = .ok (.bipush 9, 2) := by decide +kernel
theorem dX4_member_17 : decode cX4_member 17 = .ok (.imul, 1) := by decide +kernel
theorem dX4_member_18 : decode cX4_member 18 = .ok (.iload_n 2, 1) := by decide +kernel
theorem dX4_member_19 : decode cX4_member 19 = .ok (.iadd, 1) := by decide +kernel
theorem dX4_member_20 : decode cX4_member 20 = .ok (.iaload, 1) := by decide +kernel
theorem dX4_member_21 : decode cX4_member 21 = .ok (.goto 5, 3) := by decide +kernel
theorem dX4_member_24 : decode cX4_member 24 = .ok (.bipush (-2), 2) := by decide +kernel
theorem dX4_member_26 : decode cX4_member 26 = .ok (.ireturn, 1) := by decide +kernel
theorem dX4_countThrough_0 : decode cX4_countThrough 0 = .ok (.iconst 0, 1) := by decide +kernel
theorem dX4_countThrough_1 : decode cX4_countThrough 1 = .ok (.istore_n 2, 1) := by decide +kernel
theorem dX4_countThrough_2 : decode cX4_countThrough 2 = .ok (.iconst 0, 1) := by decide +kernel
theorem dX4_countThrough_3 : decode cX4_countThrough 3 = .ok (.istore_n 3, 1) := by decide +kernel
theorem dX4_countThrough_4 : decode cX4_countThrough 4 = .ok (.iload_n 3, 1) := by decide +kernel
theorem dX4_countThrough_5 : decode cX4_countThrough 5 = .ok (.aload_n 0, 1) := by decide +kernel
theorem dX4_countThrough_6 : decode cX4_countThrough 6 = .ok (.getfield 24, 3) := by decide +kernel
theorem dX4_countThrough_9 : decode cX4_countThrough 9 = .ok (.if_icmp .ge 48, 3) := by decide +kernel
theorem dX4_countThrough_12 : decode cX4_countThrough 12 = .ok (.iconst 0, 1) := by decide +kernel
theorem dX4_countThrough_13 : decode cX4_countThrough 13 = .ok (.istore 4, 2) := by decide +kernel
theorem dX4_countThrough_15 : decode cX4_countThrough 15 = .ok (.iload 4, 2) := by decide +kernel
theorem dX4_countThrough_17 : decode cX4_countThrough 17 = .ok (.aload_n 0, 1) := by decide +kernel
theorem dX4_countThrough_18 : decode cX4_countThrough 18 = .ok (.getfield 9, 3) := by decide +kernel
theorem dX4_countThrough_21 : decode cX4_countThrough 21 = .ok (.iload_n 3, 1) := by decide +kernel
theorem dX4_countThrough_22 : decode cX4_countThrough 22 = .ok (.iaload, 1) := by decide +kernel
theorem dX4_countThrough_23 : decode cX4_countThrough 23 = .ok (.if_icmp .ge 28, 3) := by decide +kernel
theorem dX4_countThrough_26 : decode cX4_countThrough 26 = .ok (.aload_n 0, 1) := by decide +kernel
theorem dX4_countThrough_27 : decode cX4_countThrough 27 = .ok (.getfield 15, 3) := by decide +kernel
theorem dX4_countThrough_30 : decode cX4_countThrough 30 = .ok (.iload_n 3, 1) := by decide +kernel
theorem dX4_countThrough_31 : decode cX4_countThrough 31 = .ok (.bipush 9, 2) := by decide +kernel
theorem dX4_countThrough_33 : decode cX4_countThrough 33 = .ok (.imul, 1) := by decide +kernel
theorem dX4_countThrough_34 : decode cX4_countThrough 34 = .ok (.iload 4, 2) := by decide +kernel
theorem dX4_countThrough_36 : decode cX4_countThrough 36 = .ok (.iadd, 1) := by decide +kernel
theorem dX4_countThrough_37 : decode cX4_countThrough 37 = .ok (.iaload, 1) := by decide +kernel
theorem dX4_countThrough_38 : decode cX4_countThrough 38 = .ok (.iload_n 1, 1) := by decide +kernel
theorem dX4_countThrough_39 : decode cX4_countThrough 39 = .ok (.if_icmp .ne 6, 3) := by decide +kernel
theorem dX4_countThrough_42 : decode cX4_countThrough 42 = .ok (.iinc 2 1, 3) := by decide +kernel
theorem dX4_countThrough_45 : decode cX4_countThrough 45 = .ok (.iinc 4 1, 3) := by decide +kernel
theorem dX4_countThrough_48 : decode cX4_countThrough 48 = .ok (.goto (-33), 3) := by decide +kernel
theorem dX4_countThrough_51 : decode cX4_countThrough 51 = .ok (.iinc 3 1, 3) := by decide +kernel
theorem dX4_countThrough_54 : decode cX4_countThrough 54 = .ok (.goto (-50), 3) := by decide +kernel
theorem dX4_countThrough_57 : decode cX4_countThrough 57 = .ok (.iload_n 2, 1) := by decide +kernel
theorem dX4_countThrough_58 : decode cX4_countThrough 58 = .ok (.ireturn, 1) := by decide +kernel
