theorem dX5_init_0 : decode cX5_init 0 = .ok (.aload_n 0, 1) := by decide +kernel
theorem dX5_init_1 : decode cX5_init 1 = .ok (.invokespecial 3, 3) := by decide +kernel
theorem dX5_init_4 : decode cX5_init 4 = .ok (.aload_n 0, 1) := by decide +kernel
theorem dX5_init_5 : decode cX5_init 5 = .ok (.bipush 9, 2) := by decide +kernel
theorem dX5_init_7 : decode cX5_init 7 = .ok (.newarray .int, 2) := by decide +kernel
theorem dX5_init_9 : decode cX5_init 9 = .ok (.putfield 9, 3) := by decide +kernel
theorem dX5_init_12 : decode cX5_init 12 = .ok (.aload_n 0, 1) := by decide +kernel
theorem dX5_init_13 : decode cX5_init 13 = .ok (.bipush 9, 2) := by decide +kernel
theorem dX5_init_15 : decode cX5_init 15 = .ok (.newarray .int, 2) := by decide +kernel
theorem dX5_init_17 : decode cX5_init 17 = .ok (.putfield 15, 3) := by decide +kernel
theorem dX5_init_20 : decode cX5_init 20 = .ok (.aload_n 0, 1) := by decide +kernel
theorem dX5_init_21 : decode cX5_init 21 = .ok (.bipush 9, 2) := by decide +kernel
theorem dX5_init_23 : decode cX5_init 23 = .ok (.newarray .int, 2) := by decide +kernel
theorem dX5_init_25 : decode cX5_init 25 = .ok (.putfield 18, 3) := by decide +kernel
theorem dX5_init_28 : decode cX5_init 28 = .ok (.aload_n 0, 1) := by decide +kernel
theorem dX5_init_29 : decode cX5_init 29 = .ok (.bipush 9, 2) := by decide +kernel
theorem dX5_init_31 : decode cX5_init 31 = .ok (.newarray .int, 2) := by decide +kernel
theorem dX5_init_33 : decode cX5_init 33 = .ok (.putfield 21, 3) := by decide +kernel
theorem dX5_init_36 : decode cX5_init 36 = .ok (.aload_n 0, 1) := by decide +kernel
theorem dX5_init_37 : decode cX5_init 37 = .ok (.bipush 9, 2) := by decide +kernel
theorem dX5_init_39 : decode cX5_init 39 = .ok (.newarray .int, 2) := by decide +kernel
theorem dX5_init_41 : decode cX5_init 41 = .ok (.putfield 24, 3) := by decide +kernel
theorem dX5_init_44 : decode cX5_init 44 = .ok (.return_, 1) := by decide +kernel
theorem dX5_plant_0 : decode cX5_plant 0 = .ok (.aload_n 0, 1) := by decide +kernel
theorem dX5_plant_1 : decode cX5_plant 1 = .ok (.getfield 18, 3) := by decide +kernel
theorem dX5_plant_4 : decode cX5_plant 4 = .ok (.bipush (-2), 2) := by decide +kernel
theorem dX5_plant_6 : decode cX5_plant 6 = .ok (.invokestatic 27, 3) := by decide +kernel
theorem dX5_plant_9 : decode cX5_plant 9 = .ok (.aload_n 0, 1) := by decide +kernel
theorem dX5_plant_10 : decode cX5_plant 10 = .ok (.getfield 15, 3) := by decide +kernel
theorem dX5_plant_13 : decode cX5_plant 13 = .ok (.iconst 0, 1) := by decide +kernel
theorem dX5_plant_14 : decode cX5_plant 14 = .ok (.invokestatic 27, 3) := by decide +kernel
theorem dX5_plant_17 : decode cX5_plant 17 = .ok (.aload_n 0, 1) := by decide +kernel
theorem dX5_plant_18 : decode cX5_plant 18 = .ok (.getfield 24, 3) := by decide +kernel
theorem dX5_plant_21 : decode cX5_plant 21 = .ok (.iconst 0, 1) := by decide +kernel
theorem dX5_plant_22 : decode cX5_plant 22 = .ok (.invokestatic 27, 3) := by decide +kernel
theorem dX5_plant_25 : decode cX5_plant 25 = .ok (.aload_n 0, 1) := by decide +kernel
theorem dX5_plant_26 : decode cX5_plant 26 = .ok (.iconst 1, 1) := by decide +kernel
theorem dX5_plant_27 : decode cX5_plant 27 = .ok (.putfield 33, 3) := by decide +kernel
theorem dX5_plant_30 : decode cX5_plant 30 = .ok (.aload_n 0, 1) := by decide +kernel
theorem dX5_plant_31 : decode cX5_plant 31 = .ok (.iconst 0, 1) := by decide +kernel
theorem dX5_plant_32 : decode cX5_plant 32 = .ok (.putfield 37, 3) := by decide +kernel
theorem dX5_plant_35 : decode cX5_plant 35 = .ok (.aload_n 0, 1) := by decide +kernel
theorem dX5_plant_36 : decode cX5_plant 36 = .ok (.getfield 9, 3) := by decide +kernel
theorem dX5_plant_39 : decode cX5_plant 39 = .ok (.iconst 0, 1) := by decide +kernel
theorem dX5_plant_40 : decode cX5_plant 40 = .ok (.iconst 0, 1) := by decide +kernel
theorem dX5_plant_41 : decode cX5_plant 41 = .ok (.iastore, 1) := by decide +kernel
theorem dX5_plant_42 : decode cX5_plant 42 = .ok (.aload_n 0, 1) := by decide +kernel
theorem dX5_plant_43 : decode cX5_plant 43 = .ok (.iconst 1, 1) := by decide +kernel
theorem dX5_plant_44 : decode cX5_plant 44 = .ok (.putfield 40, 3) := by decide +kernel
theorem dX5_plant_47 : decode cX5_plant 47 = .ok (.iconst 0, 1) := by decide +kernel
theorem dX5_plant_48 : decode cX5_plant 48 = .ok (.istore_n 3, 1) := by decide +kernel
theorem dX5_plant_49 : decode cX5_plant 49 = .ok (.iload_n 3, 1) := by decide +kernel
theorem dX5_plant_50 : decode cX5_plant 50 = .ok (.aload_n 0, 1) := by decide +kernel
theorem dX5_plant_51 : decode cX5_plant 51 = .ok (.getfield 40, 3) := by decide +kernel
theorem dX5_plant_54 : decode cX5_plant 54 = .ok (.if_icmp .ge 27, 3) := by decide +kernel
theorem dX5_plant_57 : decode cX5_plant 57 = .ok (.iload_n 3, 1) := by decide +kernel
theorem dX5_plant_58 : decode cX5_plant 58 = .ok (.bipush 9, 2) := by decide +kernel
theorem dX5_plant_60 : decode cX5_plant 60 = .ok (.if_icmp .ge 21, 3) := by decide +kernel
theorem dX5_plant_63 : decode cX5_plant 63 = .ok (.aload_n 0, 1) := by decide +kernel
theorem dX5_plant_64 : decode cX5_plant 64 = .ok (.aload_n 0, 1) := by decide +kernel
theorem dX5_plant_65 : decode cX5_plant 65 = .ok (.getfield 9, 3) := by decide +kernel
theorem dX5_plant_68 : decode cX5_plant 68 = .ok (.iload_n 3, 1) := by decide +kernel
theorem dX5_plant_69 : decode cX5_plant 69 = .ok (.iaload, 1) := by decide +kernel
theorem dX5_plant_70 : decode cX5_plant 70 = .ok (.aload_n 1, 1) := by decide +kernel
theorem dX5_plant_71 : decode cX5_plant 71 = .ok (.iload_n 2, 1) := by decide +kernel
theorem dX5_plant_72 : decode cX5_plant 72 = .ok (.invokevirtual 43, 3) := by decide +kernel
theorem dX5_plant_75 : decode cX5_plant 75 = .ok (.iinc 3 1, 3) := by decide +kernel
theorem dX5_plant_78 : decode cX5_plant 78 = .ok (.goto (-29), 3) := by decide +kernel
theorem dX5_plant_81 : decode cX5_plant 81 = .ok (.return_, 1) := by decide +kernel
theorem dX5_spreadFrom_0 : decode cX5_spreadFrom 0 = .ok (.iconst 0, 1) := by decide +kernel
theorem dX5_spreadFrom_1 : decode cX5_spreadFrom 1 = .ok (.istore 4, 2) := by decide +kernel
theorem dX5_spreadFrom_3 : decode cX5_spreadFrom 3 = .ok (.iload 4, 2) := by decide +kernel
theorem dX5_spreadFrom_5 : decode cX5_spreadFrom 5 = .ok (.aload_n 2, 1) := by decide +kernel
theorem dX5_spreadFrom_6 : decode cX5_spreadFrom 6 = .ok (.getfield 47, 3) := by decide +kernel
theorem dX5_spreadFrom_9 : decode cX5_spreadFrom 9 = .ok (.if_icmp .ge 161, 3) := by decide +kernel
theorem dX5_spreadFrom_12 : decode cX5_spreadFrom 12 = .ok (.iload_n 3, 1) := by decide +kernel
theorem dX5_spreadFrom_13 : decode cX5_spreadFrom 13 = .ok (.iload 4, 2) := by decide +kernel
theorem dX5_spreadFrom_15 : decode cX5_spreadFrom 15 = .ok (.invokestatic 50, 3) := by decide +kernel
theorem dX5_spreadFrom_18 : decode cX5_spreadFrom 18 = .ok (.ifCond .ne 7, 3) := by decide +kernel
theorem dX5_spreadFrom_21 : decode cX5_spreadFrom 21 = .ok (.iconst (-1), 1) := by decide +kernel
theorem dX5_spreadFrom_22 : decode cX5_spreadFrom 22 = .ok (.goto 10, 3) := by decide +kernel
theorem dX5_spreadFrom_25 : decode cX5_spreadFrom 25 = .ok (.aload_n 2, 1) := by decide +kernel
theorem dX5_spreadFrom_26 : decode cX5_spreadFrom 26 = .ok (.iload 4, 2) := by decide +kernel
theorem dX5_spreadFrom_28 : decode cX5_spreadFrom 28 = .ok (.iload_n 1, 1) := by decide +kernel
theorem dX5_spreadFrom_29 : decode cX5_spreadFrom 29 = .ok (.invokevirtual 54, 3) := by decide +kernel
theorem dX5_spreadFrom_32 : decode cX5_spreadFrom 32 = .ok (.istore 5, 2) := by decide +kernel
theorem dX5_spreadFrom_34 : decode cX5_spreadFrom 34 = .ok (.iload 5, 2) := by decide +kernel
theorem dX5_spreadFrom_36 : decode cX5_spreadFrom 36 = .ok (.iconst (-1), 1) := by decide +kernel
theorem dX5_spreadFrom_37 : decode cX5_spreadFrom 37 = .ok (.if_icmp .eq 127, 3) := by decide +kernel
theorem dX5_spreadFrom_40 : decode cX5_spreadFrom 40 = .ok (.aload_n 0, 1) := by decide +kernel
theorem dX5_spreadFrom_41 : decode cX5_spreadFrom 41 = .ok (.getfield 33, 3) := by decide +kernel
theorem dX5_spreadFrom_44 : decode cX5_spreadFrom 44 = .ok (.iload 5, 2) := by decide +kernel
theorem dX5_spreadFrom_46 : decode cX5_spreadFrom 46 = .ok (.invokestatic 50, 3) := by decide +kernel
theorem dX5_spreadFrom_49 : decode cX5_spreadFrom 49 = .ok (.ifCond .ne 115, 3) := by decide +kernel
theorem dX5_spreadFrom_52 : decode cX5_spreadFrom 52 = .ok (.aload_n 0, 1) := by decide +kernel
theorem dX5_spreadFrom_53 : decode cX5_spreadFrom 53 = .ok (.getfield 40, 3) := by decide +kernel
theorem dX5_spreadFrom_56 : decode cX5_spreadFrom 56 = .ok (.bipush 9, 2) := by decide +kernel
theorem dX5_spreadFrom_58 : decode cX5_spreadFrom 58 = .ok (.if_icmp .ge 106, 3) := by decide +kernel
theorem dX5_spreadFrom_61 : decode cX5_spreadFrom 61 = .ok (.aload_n 0, 1) := by decide +kernel
theorem dX5_spreadFrom_62 : decode cX5_spreadFrom 62 = .ok (.dup, 1) := by decide +kernel
theorem dX5_spreadFrom_63 : decode cX5_spreadFrom 63 = .ok (.getfield 33, 3) := by decide +kernel
theorem dX5_spreadFrom_66 : decode cX5_spreadFrom 66 = .ok (.iconst 1, 1) := by decide +kernel
theorem dX5_spreadFrom_67 : decode cX5_spreadFrom 67 = .ok (.iload 5, 2) := by decide +kernel
theorem dX5_spreadFrom_69 : decode cX5_spreadFrom 69 = .ok (.ishl, 1) := by decide +kernel
theorem dX5_spreadFrom_70 : decode cX5_spreadFrom 70 = .ok (.ior, 1) := by decide +kernel
theorem dX5_spreadFrom_71 : decode cX5_spreadFrom 71 = .ok (.putfield 33, 3) := by decide +kernel
theorem dX5_spreadFrom_74 : decode cX5_spreadFrom 74 = .ok (.aload_n 0, 1) := by decide +kernel
theorem dX5_spreadFrom_75 : decode cX5_spreadFrom 75 = .ok (.dup, 1) := by decide +kernel
theorem dX5_spreadFrom_76 : decode cX5_spreadFrom 76 = .ok (.getfield 37, 3) := by decide +kernel
theorem dX5_spreadFrom_79 : decode cX5_spreadFrom 79 = .ok (.iconst 1, 1) := by decide +kernel
theorem dX5_spreadFrom_80 : decode cX5_spreadFrom 80 = .ok (.iload 4, 2) := by decide +kernel
theorem dX5_spreadFrom_82 : decode cX5_spreadFrom 82 = .ok (.ishl, 1) := by decide +kernel
theorem dX5_spreadFrom_83 : decode cX5_spreadFrom 83 = .ok (.ior, 1) := by decide +kernel
theorem dX5_spreadFrom_84 : decode cX5_spreadFrom 84 = .ok (.putfield 37, 3) := by decide +kernel
theorem dX5_spreadFrom_87 : decode cX5_spreadFrom 87 = .ok (.aload_n 0, 1) := by decide +kernel
theorem dX5_spreadFrom_88 : decode cX5_spreadFrom 88 = .ok (.getfield 15, 3) := by decide +kernel
theorem dX5_spreadFrom_91 : decode cX5_spreadFrom 91 = .ok (.iload 5, 2) := by decide +kernel
theorem dX5_spreadFrom_93 : decode cX5_spreadFrom 93 = .ok (.iload_n 1, 1) := by decide +kernel
theorem dX5_spreadFrom_94 : decode cX5_spreadFrom 94 = .ok (.iastore, 1) := by decide +kernel
theorem dX5_spreadFrom_95 : decode cX5_spreadFrom 95 = .ok (.aload_n 0, 1) := by decide +kernel
theorem dX5_spreadFrom_96 : decode cX5_spreadFrom 96 = .ok (.getfield 18, 3) := by decide +kernel
theorem dX5_spreadFrom_99 : decode cX5_spreadFrom 99 = .ok (.iload 5, 2) := by decide +kernel
theorem dX5_spreadFrom_101 : decode cX5_spreadFrom 101 = .ok (.iload 4, 2) := by decide +kernel
theorem dX5_spreadFrom_103 : decode cX5_spreadFrom 103 = .ok (.iastore, 1) := by decide +kernel
theorem dX5_spreadFrom_104 : decode cX5_spreadFrom 104 = .ok (.aload_n 0, 1) := by decide +kernel
theorem dX5_spreadFrom_105 : decode cX5_spreadFrom 105 = .ok (.getfield 21, 3) := by decide +kernel
theorem dX5_spreadFrom_108 : decode cX5_spreadFrom 108 = .ok (.iload 5, 2) := by decide +kernel
theorem dX5_spreadFrom_110 : decode cX5_spreadFrom 110 = .ok (.aload_n 2, 1) := by decide +kernel
theorem dX5_spreadFrom_111 : decode cX5_spreadFrom 111 = .ok (.getfield 57, 3) := by decide +kernel
theorem dX5_spreadFrom_114 : decode cX5_spreadFrom 114 = .ok (.iload 4, 2) := by decide +kernel
theorem dX5_spreadFrom_116 : decode cX5_spreadFrom 116 = .ok (.iaload, 1) := by decide +kernel
theorem dX5_spreadFrom_117 : decode cX5_spreadFrom 117 = .ok (.iload 5, 2) := by decide +kernel
theorem dX5_spreadFrom_119 : decode cX5_spreadFrom 119 = .ok (.if_icmp .ne 7, 3) := by decide +kernel
theorem dX5_spreadFrom_122 : decode cX5_spreadFrom 122 = .ok (.iconst 1, 1) := by decide +kernel
theorem dX5_spreadFrom_123 : decode cX5_spreadFrom 123 = .ok (.goto 4, 3) := by decide +kernel
theorem dX5_spreadFrom_126 : decode cX5_spreadFrom 126 = .ok (.iconst (-1), 1) := by decide +kernel
theorem dX5_spreadFrom_127 : decode cX5_spreadFrom 127 = .ok (.iastore, 1) := by decide +kernel
theorem dX5_spreadFrom_128 : decode cX5_spreadFrom 128 = .ok (.aload_n 0, 1) := by decide +kernel
theorem dX5_spreadFrom_129 : decode cX5_spreadFrom 129 = .ok (.getfield 24, 3) := by decide +kernel
theorem dX5_spreadFrom_132 : decode cX5_spreadFrom 132 = .ok (.iload 5, 2) := by decide +kernel
theorem dX5_spreadFrom_134 : decode cX5_spreadFrom 134 = .ok (.aload_n 0, 1) := by decide +kernel
theorem dX5_spreadFrom_135 : decode cX5_spreadFrom 135 = .ok (.getfield 24, 3) := by decide +kernel
theorem dX5_spreadFrom_138 : decode cX5_spreadFrom 138 = .ok (.iload_n 1, 1) := by decide +kernel
theorem dX5_spreadFrom_139 : decode cX5_spreadFrom 139 = .ok (.iaload, 1) := by decide +kernel
theorem dX5_spreadFrom_140 : decode cX5_spreadFrom 140 = .ok (.iconst 1, 1) := by decide +kernel
theorem dX5_spreadFrom_141 : decode cX5_spreadFrom 141 = .ok (.iadd, 1) := by decide +kernel
theorem dX5_spreadFrom_142 : decode cX5_spreadFrom 142 = .ok (.iastore, 1) := by decide +kernel
theorem dX5_spreadFrom_143 : decode cX5_spreadFrom 143 = .ok (.aload_n 0, 1) := by decide +kernel
theorem dX5_spreadFrom_144 : decode cX5_spreadFrom 144 = .ok (.getfield 9, 3) := by decide +kernel
theorem dX5_spreadFrom_147 : decode cX5_spreadFrom 147 = .ok (.aload_n 0, 1) := by decide +kernel
theorem dX5_spreadFrom_148 : decode cX5_spreadFrom 148 = .ok (.getfield 40, 3) := by decide +kernel
theorem dX5_spreadFrom_151 : decode cX5_spreadFrom 151 = .ok (.iload 5, 2) := by decide +kernel
theorem dX5_spreadFrom_153 : decode cX5_spreadFrom 153 = .ok (.iastore, 1) := by decide +kernel
theorem dX5_spreadFrom_154 : decode cX5_spreadFrom 154 = .ok (.aload_n 0, 1) := by decide +kernel
theorem dX5_spreadFrom_155 : decode cX5_spreadFrom 155 = .ok (.dup, 1) := by decide +kernel
theorem dX5_spreadFrom_156 : decode cX5_spreadFrom 156 = .ok (.getfield 40, 3) := by decide +kernel
theorem dX5_spreadFrom_159 : decode cX5_spreadFrom 159 = .ok (.iconst 1, 1) := by decide +kernel
theorem dX5_spreadFrom_160 : decode cX5_spreadFrom 160 = .ok (.iadd, 1) := by decide +kernel
theorem dX5_spreadFrom_161 : decode cX5_spreadFrom 161 = .ok (.putfield 40, 3) := by decide +kernel
theorem dX5_spreadFrom_164 : decode cX5_spreadFrom 164 = .ok (.iinc 4 1, 3) := by decide +kernel
theorem dX5_spreadFrom_167 : decode cX5_spreadFrom 167 = .ok (.goto (-164), 3) := by decide +kernel
theorem dX5_spreadFrom_170 : decode cX5_spreadFrom 170 = .ok (.return_, 1) := by decide +kernel
theorem dX5_countBehind_0 : decode cX5_countBehind 0 = .ok (.iconst 0, 1) := by decide +kernel
theorem dX5_countBehind_1 : decode cX5_countBehind 1 = .ok (.istore_n 2, 1) := by decide +kernel
theorem dX5_countBehind_2 : decode cX5_countBehind 2 = .ok (.iconst 0, 1) := by decide +kernel
theorem dX5_countBehind_3 : decode cX5_countBehind 3 = .ok (.istore_n 3, 1) := by decide +kernel
theorem dX5_countBehind_4 : decode cX5_countBehind 4 = .ok (.iload_n 3, 1) := by decide +kernel
theorem dX5_countBehind_5 : decode cX5_countBehind 5 = .ok (.aload_n 0, 1) := by decide +kernel
theorem dX5_countBehind_6 : decode cX5_countBehind 6 = .ok (.getfield 40, 3) := by decide +kernel
theorem dX5_countBehind_9 : decode cX5_countBehind 9 = .ok (.if_icmp .ge 55, 3) := by decide +kernel
theorem dX5_countBehind_12 : decode cX5_countBehind 12 = .ok (.aload_n 0, 1) := by decide +kernel
theorem dX5_countBehind_13 : decode cX5_countBehind 13 = .ok (.getfield 9, 3) := by decide +kernel
theorem dX5_countBehind_16 : decode cX5_countBehind 16 = .ok (.iload_n 3, 1) := by decide +kernel
theorem dX5_countBehind_17 : decode cX5_countBehind 17 = .ok (.iaload, 1) := by decide +kernel
theorem dX5_countBehind_18 : decode cX5_countBehind 18 = .ok (.istore 4, 2) := by decide +kernel
theorem dX5_countBehind_20 : decode cX5_countBehind 20 = .ok (.aload_n 0, 1) := by decide +kernel
theorem dX5_countBehind_21 : decode cX5_countBehind 21 = .ok (.getfield 24, 3) := by decide +kernel
theorem dX5_countBehind_24 : decode cX5_countBehind 24 = .ok (.iload 4, 2) := by decide +kernel
theorem dX5_countBehind_26 : decode cX5_countBehind 26 = .ok (.iaload, 1) := by decide +kernel
theorem dX5_countBehind_27 : decode cX5_countBehind 27 = .ok (.istore 5, 2) := by decide +kernel
theorem dX5_countBehind_29 : decode cX5_countBehind 29 = .ok (.iload 5, 2) := by decide +kernel
theorem dX5_countBehind_31 : decode cX5_countBehind 31 = .ok (.ifCond .le 27, 3) := by decide +kernel
theorem dX5_countBehind_34 : decode cX5_countBehind 34 = .ok (.aload_n 0, 1) := by decide +kernel
theorem dX5_countBehind_35 : decode cX5_countBehind 35 = .ok (.getfield 15, 3) := by decide +kernel
theorem dX5_countBehind_38 : decode cX5_countBehind 38 = .ok (.iload 4, 2) := by decide +kernel
theorem dX5_countBehind_40 : decode cX5_countBehind 40 = .ok (.iaload, 1) := by decide +kernel
theorem dX5_countBehind_41 : decode cX5_countBehind 41 = .ok (.istore 4, 2) := by decide +kernel
theorem dX5_countBehind_43 : decode cX5_countBehind 43 = .ok (.iload 4, 2) := by decide +kernel
theorem dX5_countBehind_45 : decode cX5_countBehind 45 = .ok (.iload_n 1, 1) := by decide +kernel
theorem dX5_countBehind_46 : decode cX5_countBehind 46 = .ok (.if_icmp .ne 6, 3) := by decide +kernel
theorem dX5_countBehind_49 : decode cX5_countBehind 49 = .ok (.iinc 2 1, 3) := by decide +kernel
theorem dX5_countBehind_52 : decode cX5_countBehind 52 = .ok (.iinc 5 (-1), 3) := by decide +kernel
theorem dX5_countBehind_55 : decode cX5_countBehind 55 = .ok (.goto (-26), 3) := by decide +kernel
theorem dX5_countBehind_58 : decode cX5_countBehind 58 = .ok (.iinc 3 1, 3) := by decide +kernel
theorem dX5_countBehind_61 : decode cX5_countBehind 61 = .ok (.goto (-57), 3) := by decide +kernel
theorem dX5_countBehind_64 : decode cX5_countBehind 64 = .ok (.iload_n 2, 1) := by decide +kernel
theorem dX5_countBehind_65 : decode cX5_countBehind 65 = .ok (.ireturn, 1) := by decide +kernel
