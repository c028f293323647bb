theorem dX8_laysTree_80 : decode cX8_laysTree 80 = .ok (.aload_n 0, 1) := by decide +kernel
theorem dX8_laysTree_81 : decode cX8_laysTree 81 = .ok (.getfield 49, 3) := by decide +kernel
theorem dX8_laysTree_84 : decode cX8_laysTree 84 = .ok (.iload_n 1, 1) := by decide +kernel
theorem dX8_laysTree_85 : decode cX8_laysTree 85 = .ok (.iaload, 1) := by decide +kernel
theorem dX8_laysTree_86 : decode cX8_laysTree 86 = .ok (.if_icmp .ne 7, 3) := by decide +kernel
theorem dX8_laysTree_89 : decode cX8_laysTree 89 = .ok (.iconst 1, 1) := by decide +kernel
theorem dX8_laysTree_90 : decode cX8_laysTree 90 = .ok (.goto 4, 3) := by decide +kernel
theorem dX8_laysTree_93 : decode cX8_laysTree 93 = .ok (.iconst 0, 1) := by decide +kernel
theorem dX8_laysTree_94 : decode cX8_laysTree 94 = .ok (.istore_n 3, 1) := by decide +kernel
theorem dX8_laysTree_95 : decode cX8_laysTree 95 = .ok (.iload_n 3, 1) := by decide +kernel
theorem dX8_laysTree_96 : decode cX8_laysTree 96 = .ok (.ifCond .eq 17, 3) := by decide +kernel
theorem dX8_laysTree_99 : decode cX8_laysTree 99 = .ok (.aload_n 0, 1) := by decide +kernel
theorem dX8_laysTree_100 : decode cX8_laysTree 100 = .ok (.iload_n 2, 1) := by decide +kernel
theorem dX8_laysTree_101 : decode cX8_laysTree 101 = .ok (.aload_n 0, 1) := by decide +kernel
theorem dX8_laysTree_102 : decode cX8_laysTree 102 = .ok (.getfield 49, 3) := by decide +kernel
theorem dX8_laysTree_105 : decode cX8_laysTree 105 = .ok (.iload_n 1, 1) := by decide +kernel
theorem dX8_laysTree_106 : decode cX8_laysTree 106 = .ok (.iaload, 1) := by decide +kernel
theorem dX8_laysTree_107 : decode cX8_laysTree 107 = .ok (.invokevirtual 281, 3) := by decide +kernel
theorem dX8_laysTree_110 : decode cX8_laysTree 110 = .ok (.goto 4, 3) := by decide +kernel
theorem dX8_laysTree_113 : decode cX8_laysTree 113 = .ok (.iconst (-1), 1) := by decide +kernel
theorem dX8_laysTree_114 : decode cX8_laysTree 114 = .ok (.istore 4, 2) := by decide +kernel
theorem dX8_laysTree_116 : decode cX8_laysTree 116 = .ok (.iload_n 3, 1) := by decide +kernel
theorem dX8_laysTree_117 : decode cX8_laysTree 117 = .ok (.ifCond .eq 62, 3) := by decide +kernel
theorem dX8_laysTree_120 : decode cX8_laysTree 120 = .ok (.aload_n 0, 1) := by decide +kernel
theorem dX8_laysTree_121 : decode cX8_laysTree 121 = .ok (.iload_n 2, 1) := by decide +kernel
theorem dX8_laysTree_122 : decode cX8_laysTree 122 = .ok (.invokevirtual 269, 3) := by decide +kernel
theorem dX8_laysTree_125 : decode cX8_laysTree 125 = .ok (.ifCond .eq 54, 3) := by decide +kernel
theorem dX8_laysTree_128 : decode cX8_laysTree 128 = .ok (.aload_n 0, 1) := by decide +kernel
theorem dX8_laysTree_129 : decode cX8_laysTree 129 = .ok (.iload 4, 2) := by decide +kernel
theorem dX8_laysTree_131 : decode cX8_laysTree 131 = .ok (.invokevirtual 272, 3) := by decide +kernel
theorem dX8_laysTree_134 : decode cX8_laysTree 134 = .ok (.ifCond .ne 45, 3) := by decide +kernel
theorem dX8_laysTree_137 : decode cX8_laysTree 137 = .ok (.aload_n 0, 1) := by decide +kernel
theorem dX8_laysTree_138 : decode cX8_laysTree 138 = .ok (.dup, 1) := by decide +kernel
theorem dX8_laysTree_139 : decode cX8_laysTree 139 = .ok (.getfield 266, 3) := by decide +kernel
theorem dX8_laysTree_142 : decode cX8_laysTree 142 = .ok (.iconst 1, 1) := by decide +kernel
theorem dX8_laysTree_143 : decode cX8_laysTree 143 = .ok (.iload 4, 2) := by decide +kernel
theorem dX8_laysTree_145 : decode cX8_laysTree 145 = .ok (.ishl, 1) := by decide +kernel
theorem dX8_laysTree_146 : decode cX8_laysTree 146 = .ok (.ior, 1) := by decide +kernel
theorem dX8_laysTree_147 : decode cX8_laysTree 147 = .ok (.putfield 266, 3) := by decide +kernel
theorem dX8_laysTree_150 : decode cX8_laysTree 150 = .ok (.aload_n 0, 1) := by decide +kernel
theorem dX8_laysTree_151 : decode cX8_laysTree 151 = .ok (.getfield 46, 3) := by decide +kernel
theorem dX8_laysTree_154 : decode cX8_laysTree 154 = .ok (.iload 4, 2) := by decide +kernel
theorem dX8_laysTree_156 : decode cX8_laysTree 156 = .ok (.iload_n 2, 1) := by decide +kernel
theorem dX8_laysTree_157 : decode cX8_laysTree 157 = .ok (.iastore, 1) := by decide +kernel
theorem dX8_laysTree_158 : decode cX8_laysTree 158 = .ok (.aload_n 0, 1) := by decide +kernel
theorem dX8_laysTree_159 : decode cX8_laysTree 159 = .ok (.getfield 49, 3) := by decide +kernel
theorem dX8_laysTree_162 : decode cX8_laysTree 162 = .ok (.aload_n 0, 1) := by decide +kernel
theorem dX8_laysTree_163 : decode cX8_laysTree 163 = .ok (.getfield 278, 3) := by decide +kernel
theorem dX8_laysTree_166 : decode cX8_laysTree 166 = .ok (.iload 4, 2) := by decide +kernel
theorem dX8_laysTree_168 : decode cX8_laysTree 168 = .ok (.iastore, 1) := by decide +kernel
theorem dX8_laysTree_169 : decode cX8_laysTree 169 = .ok (.aload_n 0, 1) := by decide +kernel
theorem dX8_laysTree_170 : decode cX8_laysTree 170 = .ok (.dup, 1) := by decide +kernel
theorem dX8_laysTree_171 : decode cX8_laysTree 171 = .ok (.getfield 278, 3) := by decide +kernel
theorem dX8_laysTree_174 : decode cX8_laysTree 174 = .ok (.iconst 1, 1) := by decide +kernel
theorem dX8_laysTree_175 : decode cX8_laysTree 175 = .ok (.iadd, 1) := by decide +kernel
theorem dX8_laysTree_176 : decode cX8_laysTree 176 = .ok (.putfield 278, 3) := by decide +kernel
theorem dX8_laysTree_179 : decode cX8_laysTree 179 = .ok (.iinc 2 1, 3) := by decide +kernel
theorem dX8_laysTree_182 : decode cX8_laysTree 182 = .ok (.goto (-131), 3) := by decide +kernel
theorem dX8_laysTree_185 : decode cX8_laysTree 185 = .ok (.iinc 1 1, 3) := by decide +kernel
theorem dX8_laysTree_188 : decode cX8_laysTree 188 = .ok (.goto (-147), 3) := by decide +kernel
theorem dX8_laysTree_191 : decode cX8_laysTree 191 = .ok (.return_, 1) := by decide +kernel
theorem dX8_above_0 : decode cX8_above 0 = .ok (.aload_n 0, 1) := by decide +kernel
theorem dX8_above_1 : decode cX8_above 1 = .ok (.aload_n 0, 1) := by decide +kernel
theorem dX8_above_2 : decode cX8_above 2 = .ok (.getfield 46, 3) := by decide +kernel
theorem dX8_above_5 : decode cX8_above 5 = .ok (.iload_n 1, 1) := by decide +kernel
theorem dX8_above_6 : decode cX8_above 6 = .ok (.iaload, 1) := by decide +kernel
theorem dX8_above_7 : decode cX8_above 7 = .ok (.iload_n 1, 1) := by decide +kernel
theorem dX8_above_8 : decode cX8_above 8 = .ok (.invokevirtual 281, 3) := by decide +kernel
theorem dX8_above_11 : decode cX8_above 11 = .ok (.ireturn, 1) := by decide +kernel
theorem dX8_deepOf_0 : decode cX8_deepOf 0 = .ok (.iconst 0, 1) := by decide +kernel
theorem dX8_deepOf_1 : decode cX8_deepOf 1 = .ok (.istore_n 2, 1) := by decide +kernel
theorem dX8_deepOf_2 : decode cX8_deepOf 2 = .ok (.iload_n 1, 1) := by decide +kernel
theorem dX8_deepOf_3 : decode cX8_deepOf 3 = .ok (.istore_n 3, 1) := by decide +kernel
theorem dX8_deepOf_4 : decode cX8_deepOf 4 = .ok (.iload_n 3, 1) := by decide +kernel
theorem dX8_deepOf_5 : decode cX8_deepOf 5 = .ok (.ifCond .eq 15, 3) := by decide +kernel
theorem dX8_deepOf_8 : decode cX8_deepOf 8 = .ok (.iinc 2 1, 3) := by decide +kernel
theorem dX8_deepOf_11 : decode cX8_deepOf 11 = .ok (.aload_n 0, 1) := by decide +kernel
theorem dX8_deepOf_12 : decode cX8_deepOf 12 = .ok (.iload_n 3, 1) := by decide +kernel
theorem dX8_deepOf_13 : decode cX8_deepOf 13 = .ok (.invokevirtual 285, 3) := by decide +kernel
theorem dX8_deepOf_16 : decode cX8_deepOf 16 = .ok (.istore_n 3, 1) := by decide +kernel
theorem dX8_deepOf_17 : decode cX8_deepOf 17 = .ok (.goto (-13), 3) := by decide +kernel
theorem dX8_deepOf_20 : decode cX8_deepOf 20 = .ok (.iload_n 2, 1) := by decide +kernel
theorem dX8_deepOf_21 : decode cX8_deepOf 21 = .ok (.ireturn, 1) := by decide +kernel
theorem dX8_laysRingEdge_0 : decode cX8_laysRingEdge 0 = .ok (.aload_n 0, 1) := by decide +kernel
theorem dX8_laysRingEdge_1 : decode cX8_laysRingEdge 1 = .ok (.getfield 56, 3) := by decide +kernel
theorem dX8_laysRingEdge_4 : decode cX8_laysRingEdge 4 = .ok (.bipush 14, 2) := by decide +kernel
theorem dX8_laysRingEdge_6 : decode cX8_laysRingEdge 6 = .ok (.iload_n 1, 1) := by decide +kernel
theorem dX8_laysRingEdge_7 : decode cX8_laysRingEdge 7 = .ok (.imul, 1) := by decide +kernel
theorem dX8_laysRingEdge_8 : decode cX8_laysRingEdge 8 = .ok (.aload_n 0, 1) := by decide +kernel
theorem dX8_laysRingEdge_9 : decode cX8_laysRingEdge 9 = .ok (.getfield 62, 3) := by decide +kernel
theorem dX8_laysRingEdge_12 : decode cX8_laysRingEdge 12 = .ok (.iload_n 1, 1) := by decide +kernel
theorem dX8_laysRingEdge_13 : decode cX8_laysRingEdge 13 = .ok (.iaload, 1) := by decide +kernel
theorem dX8_laysRingEdge_14 : decode cX8_laysRingEdge 14 = .ok (.iadd, 1) := by decide +kernel
theorem dX8_laysRingEdge_15 : decode cX8_laysRingEdge 15 = .ok (.iload_n 2, 1) := by decide +kernel
theorem dX8_laysRingEdge_16 : decode cX8_laysRingEdge 16 = .ok (.iastore, 1) := by decide +kernel
theorem dX8_laysRingEdge_17 : decode cX8_laysRingEdge 17 = .ok (.aload_n 0, 1) := by decide +kernel
theorem dX8_laysRingEdge_18 : decode cX8_laysRingEdge 18 = .ok (.getfield 59, 3) := by decide +kernel
theorem dX8_laysRingEdge_21 : decode cX8_laysRingEdge 21 = .ok (.bipush 14, 2) := by decide +kernel
theorem dX8_laysRingEdge_23 : decode cX8_laysRingEdge 23 = .ok (.iload_n 1, 1) := by decide +kernel
theorem dX8_laysRingEdge_24 : decode cX8_laysRingEdge 24 = .ok (.imul, 1) := by decide +kernel
theorem dX8_laysRingEdge_25 : decode cX8_laysRingEdge 25 = .ok (.aload_n 0, 1) := by decide +kernel
theorem dX8_laysRingEdge_26 : decode cX8_laysRingEdge 26 = .ok (.getfield 62, 3) := by decide +kernel
theorem dX8_laysRingEdge_29 : decode cX8_laysRingEdge 29 = .ok (.iload_n 1, 1) := by decide +kernel
theorem dX8_laysRingEdge_30 : decode cX8_laysRingEdge 30 = .ok (.iaload, 1) := by decide +kernel
theorem dX8_laysRingEdge_31 : decode cX8_laysRingEdge 31 = .ok (.iadd, 1) := by decide +kernel
theorem dX8_laysRingEdge_32 : decode cX8_laysRingEdge 32 = .ok (.aload_n 0, 1) := by decide +kernel
theorem dX8_laysRingEdge_33 : decode cX8_laysRingEdge 33 = .ok (.getfield 28, 3) := by decide +kernel
theorem dX8_laysRingEdge_36 : decode cX8_laysRingEdge 36 = .ok (.iload_n 2, 1) := by decide +kernel
theorem dX8_laysRingEdge_37 : decode cX8_laysRingEdge 37 = .ok (.iaload, 1) := by decide +kernel
theorem dX8_laysRingEdge_38 : decode cX8_laysRingEdge 38 = .ok (.iload_n 3, 1) := by decide +kernel
theorem dX8_laysRingEdge_39 : decode cX8_laysRingEdge 39 = .ok (.if_icmp .ne 7, 3) := by decide +kernel
theorem dX8_laysRingEdge_42 : decode cX8_laysRingEdge 42 = .ok (.iconst 1, 1) := by decide +kernel
theorem dX8_laysRingEdge_43 : decode cX8_laysRingEdge 43 = .ok (.goto 4, 3) := by decide +kernel
theorem dX8_laysRingEdge_46 : decode cX8_laysRingEdge 46 = .ok (.iconst (-1), 1) := by decide +kernel
theorem dX8_laysRingEdge_47 : decode cX8_laysRingEdge 47 = .ok (.iastore, 1) := by decide +kernel
theorem dX8_laysRingEdge_48 : decode cX8_laysRingEdge 48 = .ok (.aload_n 0, 1) := by decide +kernel
theorem dX8_laysRingEdge_49 : decode cX8_laysRingEdge 49 = .ok (.getfield 62, 3) := by decide +kernel
theorem dX8_laysRingEdge_52 : decode cX8_laysRingEdge 52 = .ok (.iload_n 1, 1) := by decide +kernel
theorem dX8_laysRingEdge_53 : decode cX8_laysRingEdge 53 = .ok (.dup2, 1) := by decide +kernel
theorem dX8_laysRingEdge_54 : decode cX8_laysRingEdge 54 = .ok (.iaload, 1) := by decide +kernel
theorem dX8_laysRingEdge_55 : decode cX8_laysRingEdge 55 = .ok (.iconst 1, 1) := by decide +kernel
theorem dX8_laysRingEdge_56 : decode cX8_laysRingEdge 56 = .ok (.iadd, 1) := by decide +kernel
theorem dX8_laysRingEdge_57 : decode cX8_laysRingEdge 57 = .ok (.iastore, 1) := by decide +kernel
theorem dX8_laysRingEdge_58 : decode cX8_laysRingEdge 58 = .ok (.return_, 1) := by decide +kernel
theorem dX8_laysRing_0 : decode cX8_laysRing 0 = .ok (.aload_n 0, 1) := by decide +kernel
theorem dX8_laysRing_1 : decode cX8_laysRing 1 = .ok (.getfield 288, 3) := by decide +kernel
theorem dX8_laysRing_4 : decode cX8_laysRing 4 = .ok (.istore_n 2, 1) := by decide +kernel
theorem dX8_laysRing_5 : decode cX8_laysRing 5 = .ok (.aload_n 0, 1) := by decide +kernel
theorem dX8_laysRing_6 : decode cX8_laysRing 6 = .ok (.getfield 62, 3) := by decide +kernel
theorem dX8_laysRing_9 : decode cX8_laysRing 9 = .ok (.iload_n 2, 1) := by decide +kernel
theorem dX8_laysRing_10 : decode cX8_laysRing 10 = .ok (.iconst 0, 1) := by decide +kernel
theorem dX8_laysRing_11 : decode cX8_laysRing 11 = .ok (.iastore, 1) := by decide +kernel
theorem dX8_laysRing_12 : decode cX8_laysRing 12 = .ok (.aload_n 0, 1) := by decide +kernel
theorem dX8_laysRing_13 : decode cX8_laysRing 13 = .ok (.iload_n 2, 1) := by decide +kernel
theorem dX8_laysRing_14 : decode cX8_laysRing 14 = .ok (.iload_n 1, 1) := by decide +kernel
theorem dX8_laysRing_15 : decode cX8_laysRing 15 = .ok (.aload_n 0, 1) := by decide +kernel
theorem dX8_laysRing_16 : decode cX8_laysRing 16 = .ok (.getfield 28, 3) := by decide +kernel
theorem dX8_laysRing_19 : decode cX8_laysRing 19 = .ok (.iload_n 1, 1) := by decide +kernel
theorem dX8_laysRing_20 : decode cX8_laysRing 20 = .ok (.iaload, 1) := by decide +kernel
theorem dX8_laysRing_21 : decode cX8_laysRing 21 = .ok (.invokevirtual 291, 3) := by decide +kernel
theorem dX8_laysRing_24 : decode cX8_laysRing 24 = .ok (.aload_n 0, 1) := by decide +kernel
theorem dX8_laysRing_25 : decode cX8_laysRing 25 = .ok (.getfield 31, 3) := by decide +kernel
theorem dX8_laysRing_28 : decode cX8_laysRing 28 = .ok (.iload_n 1, 1) := by decide +kernel
theorem dX8_laysRing_29 : decode cX8_laysRing 29 = .ok (.iaload, 1) := by decide +kernel
theorem dX8_laysRing_30 : decode cX8_laysRing 30 = .ok (.istore_n 3, 1) := by decide +kernel
theorem dX8_laysRing_31 : decode cX8_laysRing 31 = .ok (.aload_n 0, 1) := by decide +kernel
theorem dX8_laysRing_32 : decode cX8_laysRing 32 = .ok (.getfield 28, 3) := by decide +kernel
theorem dX8_laysRing_35 : decode cX8_laysRing 35 = .ok (.iload_n 1, 1) := by decide +kernel
theorem dX8_laysRing_36 : decode cX8_laysRing 36 = .ok (.iaload, 1) := by decide +kernel
theorem dX8_laysRing_37 : decode cX8_laysRing 37 = .ok (.istore 4, 2) := by decide +kernel
theorem dX8_laysRing_39 : decode cX8_laysRing 39 = .ok (.iconst 0, 1) := by decide +kernel
theorem dX8_laysRing_40 : decode cX8_laysRing 40 = .ok (.istore 5, 2) := by decide +kernel
theorem dX8_laysRing_42 : decode cX8_laysRing 42 = .ok (.iload_n 3, 1) := by decide +kernel
theorem dX8_laysRing_43 : decode cX8_laysRing 43 = .ok (.iload 4, 2) := by decide +kernel
theorem dX8_laysRing_45 : decode cX8_laysRing 45 = .ok (.if_icmp .eq 61, 3) := by decide +kernel
theorem dX8_laysRing_48 : decode cX8_laysRing 48 = .ok (.aload_n 0, 1) := by decide +kernel
theorem dX8_laysRing_49 : decode cX8_laysRing 49 = .ok (.iload_n 3, 1) := by decide +kernel
theorem dX8_laysRing_50 : decode cX8_laysRing 50 = .ok (.invokevirtual 295, 3) := by decide +kernel
theorem dX8_laysRing_53 : decode cX8_laysRing 53 = .ok (.aload_n 0, 1) := by decide +kernel
theorem dX8_laysRing_54 : decode cX8_laysRing 54 = .ok (.iload 4, 2) := by decide +kernel
theorem dX8_laysRing_56 : decode cX8_laysRing 56 = .ok (.invokevirtual 295, 3) := by decide +kernel
theorem dX8_laysRing_59 : decode cX8_laysRing 59 = .ok (.if_icmp .lt 24, 3) := by decide +kernel
theorem dX8_laysRing_62 : decode cX8_laysRing 62 = .ok (.aload_n 0, 1) := by decide +kernel
theorem dX8_laysRing_63 : decode cX8_laysRing 63 = .ok (.iload_n 2, 1) := by decide +kernel
theorem dX8_laysRing_64 : decode cX8_laysRing 64 = .ok (.aload_n 0, 1) := by decide +kernel
theorem dX8_laysRing_65 : decode cX8_laysRing 65 = .ok (.getfield 46, 3) := by decide +kernel
theorem dX8_laysRing_68 : decode cX8_laysRing 68 = .ok (.iload_n 3, 1) := by decide +kernel
theorem dX8_laysRing_69 : decode cX8_laysRing 69 = .ok (.iaload, 1) := by decide +kernel
theorem dX8_laysRing_70 : decode cX8_laysRing 70 = .ok (.iload_n 3, 1) := by decide +kernel
theorem dX8_laysRing_71 : decode cX8_laysRing 71 = .ok (.invokevirtual 291, 3) := by decide +kernel
theorem dX8_laysRing_74 : decode cX8_laysRing 74 = .ok (.aload_n 0, 1) := by decide +kernel
theorem dX8_laysRing_75 : decode cX8_laysRing 75 = .ok (.iload_n 3, 1) := by decide +kernel
theorem dX8_laysRing_76 : decode cX8_laysRing 76 = .ok (.invokevirtual 285, 3) := by decide +kernel
theorem dX8_laysRing_79 : decode cX8_laysRing 79 = .ok (.istore_n 3, 1) := by decide +kernel
theorem dX8_laysRing_80 : decode cX8_laysRing 80 = .ok (.goto (-38), 3) := by decide +kernel
theorem dX8_laysRing_83 : decode cX8_laysRing 83 = .ok (.aload_n 0, 1) := by decide +kernel
theorem dX8_laysRing_84 : decode cX8_laysRing 84 = .ok (.getfield 68, 3) := by decide +kernel
theorem dX8_laysRing_87 : decode cX8_laysRing 87 = .ok (.iload 5, 2) := by decide +kernel
theorem dX8_laysRing_89 : decode cX8_laysRing 89 = .ok (.iload 4, 2) := by decide +kernel
theorem dX8_laysRing_91 : decode cX8_laysRing 91 = .ok (.iastore, 1) := by decide +kernel
theorem dX8_laysRing_92 : decode cX8_laysRing 92 = .ok (.iinc 5 1, 3) := by decide +kernel
theorem dX8_laysRing_95 : decode cX8_laysRing 95 = .ok (.aload_n 0, 1) := by decide +kernel
theorem dX8_laysRing_96 : decode cX8_laysRing 96 = .ok (.iload 4, 2) := by decide +kernel
theorem dX8_laysRing_98 : decode cX8_laysRing 98 = .ok (.invokevirtual 285, 3) := by decide +kernel
theorem dX8_laysRing_101 : decode cX8_laysRing 101 = .ok (.istore 4, 2) := by decide +kernel
theorem dX8_laysRing_103 : decode cX8_laysRing 103 = .ok (.goto (-61), 3) := by decide +kernel
theorem dX8_laysRing_106 : decode cX8_laysRing 106 = .ok (.iload 5, 2) := by decide +kernel
theorem dX8_laysRing_108 : decode cX8_laysRing 108 = .ok (.iconst 1, 1) := by decide +kernel
theorem dX8_laysRing_109 : decode cX8_laysRing 109 = .ok (.isub, 1) := by decide +kernel
theorem dX8_laysRing_110 : decode cX8_laysRing 110 = .ok (.istore 6, 2) := by decide +kernel
theorem dX8_laysRing_112 : decode cX8_laysRing 112 = .ok (.iload 6, 2) := by decide +kernel
theorem dX8_laysRing_114 : decode cX8_laysRing 114 = .ok (.ifCond .lt 37, 3) := by decide +kernel
theorem dX8_laysRing_117 : decode cX8_laysRing 117 = .ok (.aload_n 0, 1) := by decide +kernel
theorem dX8_laysRing_118 : decode cX8_laysRing 118 = .ok (.iload_n 2, 1) := by decide +kernel
theorem dX8_laysRing_119 : decode cX8_laysRing 119 = .ok (.aload_n 0, 1) := by decide +kernel
theorem dX8_laysRing_120 : decode cX8_laysRing 120 = .ok (.getfield 46, 3) := by decide +kernel
theorem dX8_laysRing_123 : decode cX8_laysRing 123 = .ok (.aload_n 0, 1) := by decide +kernel
theorem dX8_laysRing_124 : decode cX8_laysRing 124 = .ok (.getfield 68, 3) := by decide +kernel
theorem dX8_laysRing_127 : decode cX8_laysRing 127 = .ok (.iload 6, 2) := by decide +kernel
theorem dX8_laysRing_129 : decode cX8_laysRing 129 = .ok (.iaload, 1) := by decide +kernel
theorem dX8_laysRing_130 : decode cX8_laysRing 130 = .ok (.iaload, 1) := by decide +kernel
theorem dX8_laysRing_131 : decode cX8_laysRing 131 = .ok (.aload_n 0, 1) := by decide +kernel
theorem dX8_laysRing_132 : decode cX8_laysRing 132 = .ok (.aload_n 0, 1) := by decide +kernel
theorem dX8_laysRing_133 : decode cX8_laysRing 133 = .ok (.getfield 68, 3) := by decide +kernel
theorem dX8_laysRing_136 : decode cX8_laysRing 136 = .ok (.iload 6, 2) := by decide +kernel
theorem dX8_laysRing_138 : decode cX8_laysRing 138 = .ok (.iaload, 1) := by decide +kernel
theorem dX8_laysRing_139 : decode cX8_laysRing 139 = .ok (.invokevirtual 285, 3) := by decide +kernel
theorem dX8_laysRing_142 : decode cX8_laysRing 142 = .ok (.invokevirtual 291, 3) := by decide +kernel
theorem dX8_laysRing_145 : decode cX8_laysRing 145 = .ok (.iinc 6 (-1), 3) := by decide +kernel
theorem dX8_laysRing_148 : decode cX8_laysRing 148 = .ok (.goto (-36), 3) := by decide +kernel
theorem dX8_laysRing_151 : decode cX8_laysRing 151 = .ok (.aload_n 0, 1) := by decide +kernel
theorem dX8_laysRing_152 : decode cX8_laysRing 152 = .ok (.dup, 1) := by decide +kernel
theorem dX8_laysRing_153 : decode cX8_laysRing 153 = .ok (.getfield 288, 3) := by decide +kernel
theorem dX8_laysRing_156 : decode cX8_laysRing 156 = .ok (.iconst 1, 1) := by decide +kernel
theorem dX8_laysRing_157 : decode cX8_laysRing 157 = .ok (.iadd, 1) := by decide +kernel
theorem dX8_laysRing_158 : decode cX8_laysRing 158 = .ok (.putfield 288, 3) := by decide +kernel
theorem dX8_laysRing_161 : decode cX8_laysRing 161 = .ok (.return_, 1) := by decide +kernel
theorem dX8_begins_0 : decode cX8_begins 0 = .ok (.iconst 0, 1) := by decide +kernel
theorem dX8_begins_1 : decode cX8_begins 1 = .ok (.istore_n 1, 1) := by decide +kernel
theorem dX8_begins_2 : decode cX8_begins 2 = .ok (.iload_n 1, 1) := by decide +kernel
theorem dX8_begins_3 : decode cX8_begins 3 = .ok (.bipush 14, 2) := by decide +kernel
theorem dX8_begins_5 : decode cX8_begins 5 = .ok (.if_icmp .ge 16, 3) := by decide +kernel
theorem dX8_begins_8 : decode cX8_begins 8 = .ok (.aload_n 0, 1) := by decide +kernel
theorem dX8_begins_9 : decode cX8_begins 9 = .ok (.getfield 52, 3) := by decide +kernel
theorem dX8_begins_12 : decode cX8_begins 12 = .ok (.iload_n 1, 1) := by decide +kernel
theorem dX8_begins_13 : decode cX8_begins 13 = .ok (.lconst 0, 1) := by decide +kernel
theorem dX8_begins_14 : decode cX8_begins 14 = .ok (.lastore, 1) := by decide +kernel
theorem dX8_begins_15 : decode cX8_begins 15 = .ok (.iinc 1 1, 3) := by decide +kernel
theorem dX8_begins_18 : decode cX8_begins 18 = .ok (.goto (-16), 3) := by decide +kernel
theorem dX8_begins_21 : decode cX8_begins 21 = .ok (.iconst 0, 1) := by decide +kernel
theorem dX8_begins_22 : decode cX8_begins 22 = .ok (.istore_n 1, 1) := by decide +kernel
theorem dX8_begins_23 : decode cX8_begins 23 = .ok (.iload_n 1, 1) := by decide +kernel
theorem dX8_begins_24 : decode cX8_begins 24 = .ok (.bipush 9, 2) := by decide +kernel
theorem dX8_begins_26 : decode cX8_begins 26 = .ok (.if_icmp .ge 29, 3) := by decide +kernel
theorem dX8_begins_29 : decode cX8_begins 29 = .ok (.aload_n 0, 1) := by decide +kernel
theorem dX8_begins_30 : decode cX8_begins 30 = .ok (.getfield 71, 3) := by decide +kernel
theorem dX8_begins_33 : decode cX8_begins 33 = .ok (.iload_n 1, 1) := by decide +kernel
theorem dX8_begins_34 : decode cX8_begins 34 = .ok (.iload_n 1, 1) := by decide +kernel
theorem dX8_begins_35 : decode cX8_begins 35 = .ok (.ifCond .le 12, 3) := by decide +kernel
theorem dX8_begins_38 : decode cX8_begins 38 = .ok (.aload_n 0, 1) := by decide +kernel
theorem dX8_begins_39 : decode cX8_begins 39 = .ok (.iload_n 1, 1) := by decide +kernel
theorem dX8_begins_40 : decode cX8_begins 40 = .ok (.invokevirtual 298, 3) := by decide +kernel
theorem dX8_begins_43 : decode cX8_begins 43 = .ok (.i2l, 1) := by decide +kernel
theorem dX8_begins_44 : decode cX8_begins 44 = .ok (.goto 4, 3) := by decide +kernel
theorem dX8_begins_47 : decode cX8_begins 47 = .ok (.lconst 0, 1) := by decide +kernel
theorem dX8_begins_48 : decode cX8_begins 48 = .ok (.lastore, 1) := by decide +kernel
theorem dX8_begins_49 : decode cX8_begins 49 = .ok (.iinc 1 1, 3) := by decide +kernel
theorem dX8_begins_52 : decode cX8_begins 52 = .ok (.goto (-29), 3) := by decide +kernel
theorem dX8_begins_55 : decode cX8_begins 55 = .ok (.aload_n 0, 1) := by decide +kernel
theorem dX8_begins_56 : decode cX8_begins 56 = .ok (.getfield 278, 3) := by decide +kernel
theorem dX8_begins_59 : decode cX8_begins 59 = .ok (.iconst 1, 1) := by decide +kernel
theorem dX8_begins_60 : decode cX8_begins 60 = .ok (.isub, 1) := by decide +kernel
theorem dX8_begins_61 : decode cX8_begins 61 = .ok (.istore_n 1, 1) := by decide +kernel
theorem dX8_begins_62 : decode cX8_begins 62 = .ok (.iload_n 1, 1) := by decide +kernel
theorem dX8_begins_63 : decode cX8_begins 63 = .ok (.ifCond .le 77, 3) := by decide +kernel
theorem dX8_begins_66 : decode cX8_begins 66 = .ok (.aload_n 0, 1) := by decide +kernel
theorem dX8_begins_67 : decode cX8_begins 67 = .ok (.getfield 49, 3) := by decide +kernel
theorem dX8_begins_70 : decode cX8_begins 70 = .ok (.iload_n 1, 1) := by decide +kernel
theorem dX8_begins_71 : decode cX8_begins 71 = .ok (.iaload, 1) := by decide +kernel
theorem dX8_begins_72 : decode cX8_begins 72 = .ok (.istore_n 2, 1) := by decide +kernel
theorem dX8_begins_73 : decode cX8_begins 73 = .ok (.aload_n 0, 1) := by decide +kernel
theorem dX8_begins_74 : decode cX8_begins 74 = .ok (.getfield 71, 3) := by decide +kernel
theorem dX8_begins_77 : decode cX8_begins 77 = .ok (.aload_n 0, 1) := by decide +kernel
theorem dX8_begins_78 : decode cX8_begins 78 = .ok (.iload_n 2, 1) := by decide +kernel
theorem dX8_begins_79 : decode cX8_begins 79 = .ok (.invokevirtual 285, 3) := by decide +kernel
theorem dX8_begins_82 : decode cX8_begins 82 = .ok (.dup2, 1) := by decide +kernel
theorem dX8_begins_83 : decode cX8_begins 83 = .ok (.laload, 1) := by decide +kernel
theorem dX8_begins_84 : decode cX8_begins 84 = .ok (.aload_n 0, 1) := by decide +kernel
theorem dX8_begins_85 : decode cX8_begins 85 = .ok (.getfield 71, 3) := by decide +kernel
theorem dX8_begins_88 : decode cX8_begins 88 = .ok (.iload_n 2, 1) := by decide +kernel
theorem dX8_begins_89 : decode cX8_begins 89 = .ok (.laload, 1) := by decide +kernel
theorem dX8_begins_90 : decode cX8_begins 90 = .ok (.ladd, 1) := by decide +kernel
theorem dX8_begins_91 : decode cX8_begins 91 = .ok (.lastore, 1) := by decide +kernel
theorem dX8_begins_92 : decode cX8_begins 92 = .ok (.aload_n 0, 1) := by decide +kernel
theorem dX8_begins_93 : decode cX8_begins 93 = .ok (.getfield 52, 3) := by decide +kernel
theorem dX8_begins_96 : decode cX8_begins 96 = .ok (.aload_n 0, 1) := by decide +kernel
theorem dX8_begins_97 : decode cX8_begins 97 = .ok (.getfield 46, 3) := by decide +kernel
theorem dX8_begins_100 : decode cX8_begins 100 = .ok (.iload_n 2, 1) := by decide +kernel
theorem dX8_begins_101 : decode cX8_begins 101 = .ok (.iaload, 1) := by decide +kernel
theorem dX8_begins_102 : decode cX8_begins 102 = .ok (.aload_n 0, 1) := by decide +kernel
theorem dX8_begins_103 : decode cX8_begins 103 = .ok (.getfield 31, 3) := by decide +kernel
theorem dX8_begins_106 : decode cX8_begins 106 = .ok (.aload_n 0, 1) := by decide +kernel
theorem dX8_begins_107 : decode cX8_begins 107 = .ok (.getfield 46, 3) := by decide +kernel
theorem dX8_begins_110 : decode cX8_begins 110 = .ok (.iload_n 2, 1) := by decide +kernel
theorem dX8_begins_111 : decode cX8_begins 111 = .ok (.iaload, 1) := by decide +kernel
theorem dX8_begins_112 : decode cX8_begins 112 = .ok (.iaload, 1) := by decide +kernel
theorem dX8_begins_113 : decode cX8_begins 113 = .ok (.iload_n 2, 1) := by decide +kernel
theorem dX8_begins_114 : decode cX8_begins 114 = .ok (.if_icmp .ne 12, 3) := by decide +kernel
theorem dX8_begins_117 : decode cX8_begins 117 = .ok (.aload_n 0, 1) := by decide +kernel
theorem dX8_begins_118 : decode cX8_begins 118 = .ok (.getfield 71, 3) := by decide +kernel
theorem dX8_begins_121 : decode cX8_begins 121 = .ok (.iload_n 2, 1) := by decide +kernel
theorem dX8_begins_122 : decode cX8_begins 122 = .ok (.laload, 1) := by decide +kernel
theorem dX8_begins_123 : decode cX8_begins 123 = .ok (.goto 10, 3) := by decide +kernel
theorem dX8_begins_126 : decode cX8_begins 126 = .ok (.aload_n 0, 1) := by decide +kernel
theorem dX8_begins_127 : decode cX8_begins 127 = .ok (.getfield 71, 3) := by decide +kernel
theorem dX8_begins_130 : decode cX8_begins 130 = .ok (.iload_n 2, 1) := by decide +kernel
theorem dX8_begins_131 : decode cX8_begins 131 = .ok (.laload, 1) := by decide +kernel
theorem dX8_begins_132 : decode cX8_begins 132 = .ok (.lneg, 1) := by decide +kernel
theorem dX8_begins_133 : decode cX8_begins 133 = .ok (.lastore, 1) := by decide +kernel
theorem dX8_begins_134 : decode cX8_begins 134 = .ok (.iinc 1 (-1), 3) := by decide +kernel
theorem dX8_begins_137 : decode cX8_begins 137 = .ok (.goto (-75), 3) := by decide +kernel
theorem dX8_begins_140 : decode cX8_begins 140 = .ok (.return_, 1) := by decide +kernel
theorem dX8_drawn_0 : decode cX8_drawn 0 = .ok (.aload_n 0, 1) := by decide +kernel
theorem dX8_drawn_1 : decode cX8_drawn 1 = .ok (.getfield 19, 3) := by decide +kernel
theorem dX8_drawn_4 : decode cX8_drawn 4 = .ok (.iload_n 1, 1) := by decide +kernel
theorem dX8_drawn_5 : decode cX8_drawn 5 = .ok (.iaload, 1) := by decide +kernel
theorem dX8_drawn_6 : decode cX8_drawn 6 = .ok (.aload_n 0, 1) := by decide +kernel
theorem dX8_drawn_7 : decode cX8_drawn 7 = .ok (.getfield 77, 3) := by decide +kernel
theorem dX8_drawn_10 : decode cX8_drawn 10 = .ok (.imul, 1) := by decide +kernel
theorem dX8_drawn_11 : decode cX8_drawn 11 = .ok (.bipush 100, 2) := by decide +kernel
theorem dX8_drawn_13 : decode cX8_drawn 13 = .ok (.idiv, 1) := by decide +kernel
theorem dX8_drawn_14 : decode cX8_drawn 14 = .ok (.iload_n 1, 1) := by decide +kernel
theorem dX8_drawn_15 : decode cX8_drawn 15 = .ok (.aload_n 0, 1) := by decide +kernel
theorem dX8_drawn_16 : decode cX8_drawn 16 = .ok (.getfield 74, 3) := by decide +kernel
theorem dX8_drawn_19 : decode cX8_drawn 19 = .ok (.if_icmp .ne 10, 3) := by decide +kernel
theorem dX8_drawn_22 : decode cX8_drawn 22 = .ok (.aload_n 0, 1) := by decide +kernel
theorem dX8_drawn_23 : decode cX8_drawn 23 = .ok (.getfield 301, 3) := by decide +kernel
theorem dX8_drawn_26 : decode cX8_drawn 26 = .ok (.goto 4, 3) := by decide +kernel
theorem dX8_drawn_29 : decode cX8_drawn 29 = .ok (.iconst 0, 1) := by decide +kernel
theorem dX8_drawn_30 : decode cX8_drawn 30 = .ok (.iadd, 1) := by decide +kernel
theorem dX8_drawn_31 : decode cX8_drawn 31 = .ok (.ireturn, 1) := by decide +kernel
theorem dX8_liftOf_0 : decode cX8_liftOf 0 = .ok (.lload_n 2, 1) := by decide +kernel
theorem dX8_liftOf_1 : decode cX8_liftOf 1 = .ok (.lconst 0, 1) := by decide +kernel
theorem dX8_liftOf_2 : decode cX8_liftOf 2 = .ok (.lcmp, 1) := by decide +kernel
theorem dX8_liftOf_3 : decode cX8_liftOf 3 = .ok (.ifCond .ge 7, 3) := by decide +kernel
theorem dX8_liftOf_6 : decode cX8_liftOf 6 = .ok (.lconst 0, 1) := by decide +kernel
theorem dX8_liftOf_7 : decode cX8_liftOf 7 = .ok (.goto 8, 3) := by decide +kernel
theorem dX8_liftOf_10 : decode cX8_liftOf 10 = .ok (.lload_n 2, 1) := by decide +kernel
theorem dX8_liftOf_11 : decode cX8_liftOf 11 = .ok (.ldc2_w 304, 3) := by decide +kernel
theorem dX8_liftOf_14 : decode cX8_liftOf 14 = .ok (.ldiv, 1) := by decide +kernel
theorem dX8_liftOf_15 : decode cX8_liftOf 15 = .ok (.lstore 4, 2) := by decide +kernel
theorem dX8_liftOf_17 : decode cX8_liftOf 17 = .ok (.lload 4, 2) := by decide +kernel
theorem dX8_liftOf_19 : decode cX8_liftOf 19 = .ok (.aload_n 0, 1) := by decide +kernel
theorem dX8_liftOf_20 : decode cX8_liftOf 20 = .ok (.getfield 43, 3) := by decide +kernel
theorem dX8_liftOf_23 : decode cX8_liftOf 23 = .ok (.iload_n 1, 1) := by decide +kernel
theorem dX8_liftOf_24 : decode cX8_liftOf 24 = .ok (.iaload, 1) := by decide +kernel
theorem dX8_liftOf_25 : decode cX8_liftOf 25 = .ok (.i2l, 1) := by decide +kernel
theorem dX8_liftOf_26 : decode cX8_liftOf 26 = .ok (.lcmp, 1) := by decide +kernel
theorem dX8_liftOf_27 : decode cX8_liftOf 27 = .ok (.ifCond .ge 24, 3) := by decide +kernel
theorem dX8_liftOf_30 : decode cX8_liftOf 30 = .ok (.ldc2_w 306, 3) := by decide +kernel
theorem dX8_liftOf_33 : decode cX8_liftOf 33 = .ok (.aload_n 0, 1) := by decide +kernel
theorem dX8_liftOf_34 : decode cX8_liftOf 34 = .ok (.getfield 40, 3) := by decide +kernel
theorem dX8_liftOf_37 : decode cX8_liftOf 37 = .ok (.bipush 6, 2) := by decide +kernel
theorem dX8_liftOf_39 : decode cX8_liftOf 39 = .ok (.iload_n 1, 1) := by decide +kernel
theorem dX8_liftOf_40 : decode cX8_liftOf 40 = .ok (.imul, 1) := by decide +kernel
theorem dX8_liftOf_41 : decode cX8_liftOf 41 = .ok (.lload 4, 2) := by decide +kernel
theorem dX8_liftOf_43 : decode cX8_liftOf 43 = .ok (.l2i, 1) := by decide +kernel
theorem dX8_liftOf_44 : decode cX8_liftOf 44 = .ok (.iadd, 1) := by decide +kernel
theorem dX8_liftOf_45 : decode cX8_liftOf 45 = .ok (.iaload, 1) := by decide +kernel
theorem dX8_liftOf_46 : decode cX8_liftOf 46 = .ok (.i2l, 1) := by decide +kernel
theorem dX8_liftOf_47 : decode cX8_liftOf 47 = .ok (.lmul, 1) := by decide +kernel
theorem dX8_liftOf_48 : decode cX8_liftOf 48 = .ok (.goto 4, 3) := by decide +kernel
theorem dX8_liftOf_51 : decode cX8_liftOf 51 = .ok (.lconst 0, 1) := by decide +kernel
theorem dX8_liftOf_52 : decode cX8_liftOf 52 = .ok (.lreturn, 1) := by decide +kernel
theorem dX8_lossOf_0 : decode cX8_lossOf 0 = .ok (.aload_n 0, 1) := by decide +kernel
theorem dX8_lossOf_1 : decode cX8_lossOf 1 = .ok (.getfield 34, 3) := by decide +kernel
theorem dX8_lossOf_4 : decode cX8_lossOf 4 = .ok (.iload_n 1, 1) := by decide +kernel
theorem dX8_lossOf_5 : decode cX8_lossOf 5 = .ok (.iaload, 1) := by decide +kernel
theorem dX8_lossOf_6 : decode cX8_lossOf 6 = .ok (.iconst 2, 1) := by decide +kernel
theorem dX8_lossOf_7 : decode cX8_lossOf 7 = .ok (.if_icmp .ne 11, 3) := by decide +kernel
theorem dX8_lossOf_10 : decode cX8_lossOf 10 = .ok (.aload_n 0, 1) := by decide +kernel
theorem dX8_lossOf_11 : decode cX8_lossOf 11 = .ok (.iload_n 1, 1) := by decide +kernel
theorem dX8_lossOf_12 : decode cX8_lossOf 12 = .ok (.lload_n 2, 1) := by decide +kernel
theorem dX8_lossOf_13 : decode cX8_lossOf 13 = .ok (.invokevirtual 308, 3) := by decide +kernel
theorem dX8_lossOf_16 : decode cX8_lossOf 16 = .ok (.lneg, 1) := by decide +kernel
theorem dX8_lossOf_17 : decode cX8_lossOf 17 = .ok (.lreturn, 1) := by decide +kernel
theorem dX8_lossOf_18 : decode cX8_lossOf 18 = .ok (.lload_n 2, 1) := by decide +kernel
theorem dX8_lossOf_19 : decode cX8_lossOf 19 = .ok (.lconst 0, 1) := by decide +kernel
theorem dX8_lossOf_20 : decode cX8_lossOf 20 = .ok (.lcmp, 1) := by decide +kernel
theorem dX8_lossOf_21 : decode cX8_lossOf 21 = .ok (.ifCond .ge 18, 3) := by decide +kernel
theorem dX8_lossOf_24 : decode cX8_lossOf 24 = .ok (.aload_n 0, 1) := by decide +kernel
theorem dX8_lossOf_25 : decode cX8_lossOf 25 = .ok (.getfield 37, 3) := by decide +kernel
theorem dX8_lossOf_28 : decode cX8_lossOf 28 = .ok (.iload_n 1, 1) := by decide +kernel
theorem dX8_lossOf_29 : decode cX8_lossOf 29 = .ok (.iaload, 1) := by decide +kernel
theorem dX8_lossOf_30 : decode cX8_lossOf 30 = .ok (.ineg, 1) := by decide +kernel
theorem dX8_lossOf_31 : decode cX8_lossOf 31 = .ok (.i2l, 1) := by decide +kernel
theorem dX8_lossOf_32 : decode cX8_lossOf 32 = .ok (.lload_n 2, 1) := by decide +kernel
theorem dX8_lossOf_33 : decode cX8_lossOf 33 = .ok (.lmul, 1) := by decide +kernel
theorem dX8_lossOf_34 : decode cX8_lossOf 34 = .ok (.lload_n 2, 1) := by decide +kernel
theorem dX8_lossOf_35 : decode cX8_lossOf 35 = .ok (.lmul, 1) := by decide +kernel
theorem dX8_lossOf_36 : decode cX8_lossOf 36 = .ok (.goto 14, 3) := by decide +kernel
theorem dX8_lossOf_39 : decode cX8_lossOf 39 = .ok (.aload_n 0, 1) := by decide +kernel
theorem dX8_lossOf_40 : decode cX8_lossOf 40 = .ok (.getfield 37, 3) := by decide +kernel
theorem dX8_lossOf_43 : decode cX8_lossOf 43 = .ok (.iload_n 1, 1) := by decide +kernel
theorem dX8_lossOf_44 : decode cX8_lossOf 44 = .ok (.iaload, 1) := by decide +kernel
theorem dX8_lossOf_45 : decode cX8_lossOf 45 = .ok (.i2l, 1) := by decide +kernel
theorem dX8_lossOf_46 : decode cX8_lossOf 46 = .ok (.lload_n 2, 1) := by decide +kernel
theorem dX8_lossOf_47 : decode cX8_lossOf 47 = .ok (.lmul, 1) := by decide +kernel
theorem dX8_lossOf_48 : decode cX8_lossOf 48 = .ok (.lload_n 2, 1) := by decide +kernel
theorem dX8_lossOf_49 : decode cX8_lossOf 49 = .ok (.lmul, 1) := by decide +kernel
theorem dX8_lossOf_50 : decode cX8_lossOf 50 = .ok (.lreturn, 1) := by decide +kernel
theorem dX8_steepBy_0 : decode cX8_steepBy 0 = .ok (.aload_n 0, 1) := by decide +kernel
theorem dX8_steepBy_1 : decode cX8_steepBy 1 = .ok (.getfield 34, 3) := by decide +kernel
theorem dX8_steepBy_4 : decode cX8_steepBy 4 = .ok (.iload_n 1, 1) := by decide +kernel
theorem dX8_steepBy_5 : decode cX8_steepBy 5 = .ok (.iaload, 1) := by decide +kernel
theorem dX8_steepBy_6 : decode cX8_steepBy 6 = .ok (.iconst 2, 1) := by decide +kernel
theorem dX8_steepBy_7 : decode cX8_steepBy 7 = .ok (.if_icmp .ne 7, 3) := by decide +kernel
theorem dX8_steepBy_10 : decode cX8_steepBy 10 = .ok (.lconst 1, 1) := by decide +kernel
theorem dX8_steepBy_11 : decode cX8_steepBy 11 = .ok (.goto 29, 3) := by decide +kernel
theorem dX8_steepBy_14 : decode cX8_steepBy 14 = .ok (.aload_n 0, 1) := by decide +kernel
theorem dX8_steepBy_15 : decode cX8_steepBy 15 = .ok (.getfield 37, 3) := by decide +kernel
theorem dX8_steepBy_18 : decode cX8_steepBy 18 = .ok (.iload_n 1, 1) := by decide +kernel
theorem dX8_steepBy_19 : decode cX8_steepBy 19 = .ok (.iaload, 1) := by decide +kernel
theorem dX8_steepBy_20 : decode cX8_steepBy 20 = .ok (.i2l, 1) := by decide +kernel
theorem dX8_steepBy_21 : decode cX8_steepBy 21 = .ok (.ldc2_w 312, 3) := by decide +kernel
theorem dX8_steepBy_24 : decode cX8_steepBy 24 = .ok (.lload_n 2, 1) := by decide +kernel
theorem dX8_steepBy_25 : decode cX8_steepBy 25 = .ok (.lconst 0, 1) := by decide +kernel
theorem dX8_steepBy_26 : decode cX8_steepBy 26 = .ok (.lcmp, 1) := by decide +kernel
theorem dX8_steepBy_27 : decode cX8_steepBy 27 = .ok (.ifCond .ge 8, 3) := by decide +kernel
theorem dX8_steepBy_30 : decode cX8_steepBy 30 = .ok (.lload_n 2, 1) := by decide +kernel
theorem dX8_steepBy_31 : decode cX8_steepBy 31 = .ok (.lneg, 1) := by decide +kernel
theorem dX8_steepBy_32 : decode cX8_steepBy 32 = .ok (.goto 4, 3) := by decide +kernel
theorem dX8_steepBy_35 : decode cX8_steepBy 35 = .ok (.lload_n 2, 1) := by decide +kernel
theorem dX8_steepBy_36 : decode cX8_steepBy 36 = .ok (.lmul, 1) := by decide +kernel
theorem dX8_steepBy_37 : decode cX8_steepBy 37 = .ok (.lconst 1, 1) := by decide +kernel
theorem dX8_steepBy_38 : decode cX8_steepBy 38 = .ok (.ladd, 1) := by decide +kernel
theorem dX8_steepBy_39 : decode cX8_steepBy 39 = .ok (.lmul, 1) := by decide +kernel
theorem dX8_steepBy_40 : decode cX8_steepBy 40 = .ok (.lreturn, 1) := by decide +kernel
theorem dX8_steepOf_0 : decode cX8_steepOf 0 = .ok (.aload_n 0, 1) := by decide +kernel
theorem dX8_steepOf_1 : decode cX8_steepOf 1 = .ok (.iload_n 1, 1) := by decide +kernel
theorem dX8_steepOf_2 : decode cX8_steepOf 2 = .ok (.aload_n 0, 1) := by decide +kernel
theorem dX8_steepOf_3 : decode cX8_steepOf 3 = .ok (.getfield 52, 3) := by decide +kernel
theorem dX8_steepOf_6 : decode cX8_steepOf 6 = .ok (.iload_n 1, 1) := by decide +kernel
theorem dX8_steepOf_7 : decode cX8_steepOf 7 = .ok (.laload, 1) := by decide +kernel
theorem dX8_steepOf_8 : decode cX8_steepOf 8 = .ok (.invokevirtual 314, 3) := by decide +kernel
theorem dX8_steepOf_11 : decode cX8_steepOf 11 = .ok (.lreturn, 1) := by decide +kernel
theorem dX8_lossAt_0 : decode cX8_lossAt 0 = .ok (.aload_n 0, 1) := by decide +kernel
theorem dX8_lossAt_1 : decode cX8_lossAt 1 = .ok (.aload_n 0, 1) := by decide +kernel
theorem dX8_lossAt_2 : decode cX8_lossAt 2 = .ok (.iload_n 1, 1) := by decide +kernel
theorem dX8_lossAt_3 : decode cX8_lossAt 3 = .ok (.invokevirtual 317, 3) := by decide +kernel
theorem dX8_lossAt_6 : decode cX8_lossAt 6 = .ok (.ifCond .eq 17, 3) := by decide +kernel
theorem dX8_lossAt_9 : decode cX8_lossAt 9 = .ok (.iload_n 3, 1) := by decide +kernel
theorem dX8_lossAt_10 : decode cX8_lossAt 10 = .ok (.i2l, 1) := by decide +kernel
theorem dX8_lossAt_11 : decode cX8_lossAt 11 = .ok (.lconst 0, 1) := by decide +kernel
theorem dX8_lossAt_12 : decode cX8_lossAt 12 = .ok (.lconst 1, 1) := by decide +kernel
theorem dX8_lossAt_13 : decode cX8_lossAt 13 = .ok (.invokestatic 131, 3) := by decide +kernel
theorem dX8_lossAt_16 : decode cX8_lossAt 16 = .ok (.ifCond .eq 7, 3) := by decide +kernel
theorem dX8_lossAt_19 : decode cX8_lossAt 19 = .ok (.iconst 1, 1) := by decide +kernel
theorem dX8_lossAt_20 : decode cX8_lossAt 20 = .ok (.goto 4, 3) := by decide +kernel
theorem dX8_lossAt_23 : decode cX8_lossAt 23 = .ok (.iconst 0, 1) := by decide +kernel
theorem dX8_lossAt_24 : decode cX8_lossAt 24 = .ok (.iload_n 2, 1) := by decide +kernel
theorem dX8_lossAt_25 : decode cX8_lossAt 25 = .ok (.i2l, 1) := by decide +kernel
theorem dX8_lossAt_26 : decode cX8_lossAt 26 = .ok (.ldc2_w 320, 3) := by decide +kernel
theorem dX8_lossAt_29 : decode cX8_lossAt 29 = .ok (.ldc2_w 322, 3) := by decide +kernel
theorem dX8_lossAt_32 : decode cX8_lossAt 32 = .ok (.invokestatic 131, 3) := by decide +kernel
theorem dX8_lossAt_35 : decode cX8_lossAt 35 = .ok (.invokestatic 241, 3) := by decide +kernel
theorem dX8_lossAt_38 : decode cX8_lossAt 38 = .ok (.invokevirtual 245, 3) := by decide +kernel
theorem dX8_lossAt_41 : decode cX8_lossAt 41 = .ok (.ifCond .eq 7, 3) := by decide +kernel
theorem dX8_lossAt_44 : decode cX8_lossAt 44 = .ok (.ldc2_w 102, 3) := by decide +kernel
theorem dX8_lossAt_47 : decode cX8_lossAt 47 = .ok (.lreturn, 1) := by decide +kernel
theorem dX8_lossAt_48 : decode cX8_lossAt 48 = .ok (.iload_n 3, 1) := by decide +kernel
theorem dX8_lossAt_49 : decode cX8_lossAt 49 = .ok (.ifCond .ne 13, 3) := by decide +kernel
theorem dX8_lossAt_52 : decode cX8_lossAt 52 = .ok (.aload_n 0, 1) := by decide +kernel
theorem dX8_lossAt_53 : decode cX8_lossAt 53 = .ok (.iload_n 1, 1) := by decide +kernel
theorem dX8_lossAt_54 : decode cX8_lossAt 54 = .ok (.iload_n 2, 1) := by decide +kernel
theorem dX8_lossAt_55 : decode cX8_lossAt 55 = .ok (.i2l, 1) := by decide +kernel
theorem dX8_lossAt_56 : decode cX8_lossAt 56 = .ok (.invokevirtual 324, 3) := by decide +kernel
theorem dX8_lossAt_59 : decode cX8_lossAt 59 = .ok (.goto 10, 3) := by decide +kernel
theorem dX8_lossAt_62 : decode cX8_lossAt 62 = .ok (.aload_n 0, 1) := by decide +kernel
theorem dX8_lossAt_63 : decode cX8_lossAt 63 = .ok (.iload_n 1, 1) := by decide +kernel
theorem dX8_lossAt_64 : decode cX8_lossAt 64 = .ok (.iload_n 2, 1) := by decide +kernel
theorem dX8_lossAt_65 : decode cX8_lossAt 65 = .ok (.i2l, 1) := by decide +kernel
theorem dX8_lossAt_66 : decode cX8_lossAt 66 = .ok (.invokevirtual 314, 3) := by decide +kernel
theorem dX8_lossAt_69 : decode cX8_lossAt 69 = .ok (.lreturn, 1) := by decide +kernel
theorem dX8_behind_0 : decode cX8_behind 0 = .ok (.aload_n 0, 1) := by decide +kernel
theorem dX8_behind_1 : decode cX8_behind 1 = .ok (.aload_n 0, 1) := by decide +kernel
theorem dX8_behind_2 : decode cX8_behind 2 = .ok (.iload_n 1, 1) := by decide +kernel
theorem dX8_behind_3 : decode cX8_behind 3 = .ok (.invokevirtual 327, 3) := by decide +kernel
theorem dX8_behind_6 : decode cX8_behind 6 = .ok (.invokestatic 330, 3) := by decide +kernel
theorem dX8_behind_9 : decode cX8_behind 9 = .ok (.invokevirtual 245, 3) := by decide +kernel
theorem dX8_behind_12 : decode cX8_behind 12 = .ok (.ifCond .eq 5, 3) := by decide +kernel
theorem dX8_behind_15 : decode cX8_behind 15 = .ok (.iconst (-1), 1) := by decide +kernel
theorem dX8_behind_16 : decode cX8_behind 16 = .ok (.ireturn, 1) := by decide +kernel
theorem dX8_behind_17 : decode cX8_behind 17 = .ok (.iconst 0, 1) := by decide +kernel
theorem dX8_behind_18 : decode cX8_behind 18 = .ok (.istore_n 2, 1) := by decide +kernel
theorem dX8_behind_19 : decode cX8_behind 19 = .ok (.iconst 1, 1) := by decide +kernel
theorem dX8_behind_20 : decode cX8_behind 20 = .ok (.istore_n 3, 1) := by decide +kernel
theorem dX8_behind_21 : decode cX8_behind 21 = .ok (.iload_n 3, 1) := by decide +kernel
theorem dX8_behind_22 : decode cX8_behind 22 = .ok (.aload_n 0, 1) := by decide +kernel
theorem dX8_behind_23 : decode cX8_behind 23 = .ok (.getfield 278, 3) := by decide +kernel
theorem dX8_behind_26 : decode cX8_behind 26 = .ok (.if_icmp .ge 71, 3) := by decide +kernel
theorem dX8_behind_29 : decode cX8_behind 29 = .ok (.iconst 0, 1) := by decide +kernel
theorem dX8_behind_30 : decode cX8_behind 30 = .ok (.istore 4, 2) := by decide +kernel
theorem dX8_behind_32 : decode cX8_behind 32 = .ok (.aload_n 0, 1) := by decide +kernel
theorem dX8_behind_33 : decode cX8_behind 33 = .ok (.getfield 49, 3) := by decide +kernel
theorem dX8_behind_36 : decode cX8_behind 36 = .ok (.iload_n 3, 1) := by decide +kernel
theorem dX8_behind_37 : decode cX8_behind 37 = .ok (.iaload, 1) := by decide +kernel
theorem dX8_behind_38 : decode cX8_behind 38 = .ok (.istore 5, 2) := by decide +kernel
theorem dX8_behind_40 : decode cX8_behind 40 = .ok (.iload 5, 2) := by decide +kernel
theorem dX8_behind_42 : decode cX8_behind 42 = .ok (.ifCond .eq 36, 3) := by decide +kernel
theorem dX8_behind_45 : decode cX8_behind 45 = .ok (.iload 4, 2) := by decide +kernel
theorem dX8_behind_47 : decode cX8_behind 47 = .ok (.ifCond .ne 31, 3) := by decide +kernel
theorem dX8_behind_50 : decode cX8_behind 50 = .ok (.aload_n 0, 1) := by decide +kernel
theorem dX8_behind_51 : decode cX8_behind 51 = .ok (.iload 5, 2) := by decide +kernel
theorem dX8_behind_53 : decode cX8_behind 53 = .ok (.invokevirtual 285, 3) := by decide +kernel
theorem dX8_behind_56 : decode cX8_behind 56 = .ok (.iload_n 1, 1) := by decide +kernel
theorem dX8_behind_57 : decode cX8_behind 57 = .ok (.if_icmp .ne 7, 3) := by decide +kernel
theorem dX8_behind_60 : decode cX8_behind 60 = .ok (.iconst 1, 1) := by decide +kernel
theorem dX8_behind_61 : decode cX8_behind 61 = .ok (.goto 4, 3) := by decide +kernel
theorem dX8_behind_64 : decode cX8_behind 64 = .ok (.iconst 0, 1) := by decide +kernel
theorem dX8_behind_65 : decode cX8_behind 65 = .ok (.istore 4, 2) := by decide +kernel
theorem dX8_behind_67 : decode cX8_behind 67 = .ok (.aload_n 0, 1) := by decide +kernel
theorem dX8_behind_68 : decode cX8_behind 68 = .ok (.iload 5, 2) := by decide +kernel
theorem dX8_behind_70 : decode cX8_behind 70 = .ok (.invokevirtual 285, 3) := by decide +kernel
theorem dX8_behind_73 : decode cX8_behind 73 = .ok (.istore 5, 2) := by decide +kernel
theorem dX8_behind_75 : decode cX8_behind 75 = .ok (.goto (-35), 3) := by decide +kernel
theorem dX8_behind_78 : decode cX8_behind 78 = .ok (.iload_n 2, 1) := by decide +kernel
theorem dX8_behind_79 : decode cX8_behind 79 = .ok (.iload 4, 2) := by decide +kernel
theorem dX8_behind_81 : decode cX8_behind 81 = .ok (.ifCond .eq 7, 3) := by decide +kernel
theorem dX8_behind_84 : decode cX8_behind 84 = .ok (.iconst 1, 1) := by decide +kernel
theorem dX8_behind_85 : decode cX8_behind 85 = .ok (.goto 4, 3) := by decide +kernel
theorem dX8_behind_88 : decode cX8_behind 88 = .ok (.iconst 0, 1) := by decide +kernel
theorem dX8_behind_89 : decode cX8_behind 89 = .ok (.iadd, 1) := by decide +kernel
theorem dX8_behind_90 : decode cX8_behind 90 = .ok (.istore_n 2, 1) := by decide +kernel
theorem dX8_behind_91 : decode cX8_behind 91 = .ok (.iinc 3 1, 3) := by decide +kernel
theorem dX8_behind_94 : decode cX8_behind 94 = .ok (.goto (-73), 3) := by decide +kernel
theorem dX8_behind_97 : decode cX8_behind 97 = .ok (.aload_n 0, 1) := by decide +kernel
theorem dX8_behind_98 : decode cX8_behind 98 = .ok (.iload_n 1, 1) := by decide +kernel
theorem dX8_behind_99 : decode cX8_behind 99 = .ok (.invokevirtual 272, 3) := by decide +kernel
theorem dX8_behind_102 : decode cX8_behind 102 = .ok (.ifCond .eq 7, 3) := by decide +kernel
theorem dX8_behind_105 : decode cX8_behind 105 = .ok (.iload_n 2, 1) := by decide +kernel
theorem dX8_behind_106 : decode cX8_behind 106 = .ok (.goto 4, 3) := by decide +kernel
theorem dX8_behind_109 : decode cX8_behind 109 = .ok (.iconst 0, 1) := by decide +kernel
theorem dX8_behind_110 : decode cX8_behind 110 = .ok (.ireturn, 1) := by decide +kernel
theorem dX8_ringSum_0 : decode cX8_ringSum 0 = .ok (.lconst 0, 1) := by decide +kernel
theorem dX8_ringSum_1 : decode cX8_ringSum 1 = .ok (.lstore_n 2, 1) := by decide +kernel
theorem dX8_ringSum_2 : decode cX8_ringSum 2 = .ok (.iconst 0, 1) := by decide +kernel
theorem dX8_ringSum_3 : decode cX8_ringSum 3 = .ok (.istore 4, 2) := by decide +kernel
theorem dX8_ringSum_5 : decode cX8_ringSum 5 = .ok (.iload 4, 2) := by decide +kernel
theorem dX8_ringSum_7 : decode cX8_ringSum 7 = .ok (.aload_n 0, 1) := by decide +kernel
theorem dX8_ringSum_8 : decode cX8_ringSum 8 = .ok (.getfield 62, 3) := by decide +kernel
theorem dX8_ringSum_11 : decode cX8_ringSum 11 = .ok (.iload_n 1, 1) := by decide +kernel
theorem dX8_ringSum_12 : decode cX8_ringSum 12 = .ok (.iaload, 1) := by decide +kernel
theorem dX8_ringSum_13 : decode cX8_ringSum 13 = .ok (.if_icmp .ge 53, 3) := by decide +kernel
theorem dX8_ringSum_16 : decode cX8_ringSum 16 = .ok (.aload_n 0, 1) := by decide +kernel
theorem dX8_ringSum_17 : decode cX8_ringSum 17 = .ok (.getfield 56, 3) := by decide +kernel
theorem dX8_ringSum_20 : decode cX8_ringSum 20 = .ok (.bipush 14, 2) := by decide +kernel
theorem dX8_ringSum_22 : decode cX8_ringSum 22 = .ok (.iload_n 1, 1) := by decide +kernel
theorem dX8_ringSum_23 : decode cX8_ringSum 23 = .ok (.imul, 1) := by decide +kernel
theorem dX8_ringSum_24 : decode cX8_ringSum 24 = .ok (.iload 4, 2) := by decide +kernel
theorem dX8_ringSum_26 : decode cX8_ringSum 26 = .ok (.iadd, 1) := by decide +kernel
theorem dX8_ringSum_27 : decode cX8_ringSum 27 = .ok (.iaload, 1) := by decide +kernel
theorem dX8_ringSum_28 : decode cX8_ringSum 28 = .ok (.istore 5, 2) := by decide +kernel
theorem dX8_ringSum_30 : decode cX8_ringSum 30 = .ok (.lload_n 2, 1) := by decide +kernel
theorem dX8_ringSum_31 : decode cX8_ringSum 31 = .ok (.aload_n 0, 1) := by decide +kernel
theorem dX8_ringSum_32 : decode cX8_ringSum 32 = .ok (.getfield 59, 3) := by decide +kernel
theorem dX8_ringSum_35 : decode cX8_ringSum 35 = .ok (.bipush 14, 2) := by decide +kernel
theorem dX8_ringSum_37 : decode cX8_ringSum 37 = .ok (.iload_n 1, 1) := by decide +kernel
theorem dX8_ringSum_38 : decode cX8_ringSum 38 = .ok (.imul, 1) := by decide +kernel
theorem dX8_ringSum_39 : decode cX8_ringSum 39 = .ok (.iload 4, 2) := by decide +kernel
theorem dX8_ringSum_41 : decode cX8_ringSum 41 = .ok (.iadd, 1) := by decide +kernel
theorem dX8_ringSum_42 : decode cX8_ringSum 42 = .ok (.iaload, 1) := by decide +kernel
theorem dX8_ringSum_43 : decode cX8_ringSum 43 = .ok (.i2l, 1) := by decide +kernel
theorem dX8_ringSum_44 : decode cX8_ringSum 44 = .ok (.aload_n 0, 1) := by decide +kernel
theorem dX8_ringSum_45 : decode cX8_ringSum 45 = .ok (.iload 5, 2) := by decide +kernel
theorem dX8_ringSum_47 : decode cX8_ringSum 47 = .ok (.aload_n 0, 1) := by decide +kernel
theorem dX8_ringSum_48 : decode cX8_ringSum 48 = .ok (.getfield 52, 3) := by decide +kernel
theorem dX8_ringSum_51 : decode cX8_ringSum 51 = .ok (.iload 5, 2) := by decide +kernel
theorem dX8_ringSum_53 : decode cX8_ringSum 53 = .ok (.laload, 1) := by decide +kernel
theorem dX8_ringSum_54 : decode cX8_ringSum 54 = .ok (.invokevirtual 324, 3) := by decide +kernel
theorem dX8_ringSum_57 : decode cX8_ringSum 57 = .ok (.lmul, 1) := by decide +kernel
theorem dX8_ringSum_58 : decode cX8_ringSum 58 = .ok (.ladd, 1) := by decide +kernel
theorem dX8_ringSum_59 : decode cX8_ringSum 59 = .ok (.lstore_n 2, 1) := by decide +kernel
theorem dX8_ringSum_60 : decode cX8_ringSum 60 = .ok (.iinc 4 1, 3) := by decide +kernel
theorem dX8_ringSum_63 : decode cX8_ringSum 63 = .ok (.goto (-58), 3) := by decide +kernel
theorem dX8_ringSum_66 : decode cX8_ringSum 66 = .ok (.lload_n 2, 1) := by decide +kernel
theorem dX8_ringSum_67 : decode cX8_ringSum 67 = .ok (.lreturn, 1) := by decide +kernel
theorem dX8_ringSteep_0 : decode cX8_ringSteep 0 = .ok (.lconst 0, 1) := by decide +kernel
theorem dX8_ringSteep_1 : decode cX8_ringSteep 1 = .ok (.lstore_n 2, 1) := by decide +kernel
theorem dX8_ringSteep_2 : decode cX8_ringSteep 2 = .ok (.iconst 0, 1) := by decide +kernel
theorem dX8_ringSteep_3 : decode cX8_ringSteep 3 = .ok (.istore 4, 2) := by decide +kernel
theorem dX8_ringSteep_5 : decode cX8_ringSteep 5 = .ok (.iload 4, 2) := by decide +kernel
theorem dX8_ringSteep_7 : decode cX8_ringSteep 7 = .ok (.aload_n 0, 1) := by decide +kernel
theorem dX8_ringSteep_8 : decode cX8_ringSteep 8 = .ok (.getfield 62, 3) := by decide +kernel
theorem dX8_ringSteep_11 : decode cX8_ringSteep 11 = .ok (.iload_n 1, 1) := by decide +kernel
theorem dX8_ringSteep_12 : decode cX8_ringSteep 12 = .ok (.iaload, 1) := by decide +kernel
theorem dX8_ringSteep_13 : decode cX8_ringSteep 13 = .ok (.if_icmp .ge 28, 3) := by decide +kernel
theorem dX8_ringSteep_16 : decode cX8_ringSteep 16 = .ok (.lload_n 2, 1) := by decide +kernel
theorem dX8_ringSteep_17 : decode cX8_ringSteep 17 = .ok (.aload_n 0, 1) := by decide +kernel
theorem dX8_ringSteep_18 : decode cX8_ringSteep 18 = .ok (.aload_n 0, 1) := by decide +kernel
theorem dX8_ringSteep_19 : decode cX8_ringSteep 19 = .ok (.getfield 56, 3) := by decide +kernel
theorem dX8_ringSteep_22 : decode cX8_ringSteep 22 = .ok (.bipush 14, 2) := by decide +kernel
theorem dX8_ringSteep_24 : decode cX8_ringSteep 24 = .ok (.iload_n 1, 1) := by decide +kernel
theorem dX8_ringSteep_25 : decode cX8_ringSteep 25 = .ok (.imul, 1) := by decide +kernel
theorem dX8_ringSteep_26 : decode cX8_ringSteep 26 = .ok (.iload 4, 2) := by decide +kernel
theorem dX8_ringSteep_28 : decode cX8_ringSteep 28 = .ok (.iadd, 1) := by decide +kernel
theorem dX8_ringSteep_29 : decode cX8_ringSteep 29 = .ok (.iaload, 1) := by decide +kernel
theorem dX8_ringSteep_30 : decode cX8_ringSteep 30 = .ok (.invokevirtual 333, 3) := by decide +kernel
theorem dX8_ringSteep_33 : decode cX8_ringSteep 33 = .ok (.ladd, 1) := by decide +kernel
theorem dX8_ringSteep_34 : decode cX8_ringSteep 34 = .ok (.lstore_n 2, 1) := by decide +kernel
theorem dX8_ringSteep_35 : decode cX8_ringSteep 35 = .ok (.iinc 4 1, 3) := by decide +kernel
theorem dX8_ringSteep_38 : decode cX8_ringSteep 38 = .ok (.goto (-33), 3) := by decide +kernel
theorem dX8_ringSteep_41 : decode cX8_ringSteep 41 = .ok (.lload_n 2, 1) := by decide +kernel
theorem dX8_ringSteep_42 : decode cX8_ringSteep 42 = .ok (.lreturn, 1) := by decide +kernel
theorem dX8_nearest_0 : decode cX8_nearest 0 = .ok (.lload_n 0, 1) := by decide +kernel
theorem dX8_nearest_1 : decode cX8_nearest 1 = .ok (.lconst 0, 1) := by decide +kernel
theorem dX8_nearest_2 : decode cX8_nearest 2 = .ok (.lcmp, 1) := by decide +kernel
theorem dX8_nearest_3 : decode cX8_nearest 3 = .ok (.ifCond .ge 8, 3) := by decide +kernel
theorem dX8_nearest_6 : decode cX8_nearest 6 = .ok (.lload_n 0, 1) := by decide +kernel
theorem dX8_nearest_7 : decode cX8_nearest 7 = .ok (.lneg, 1) := by decide +kernel
theorem dX8_nearest_8 : decode cX8_nearest 8 = .ok (.goto 4, 3) := by decide +kernel
theorem dX8_nearest_11 : decode cX8_nearest 11 = .ok (.lload_n 0, 1) := by decide +kernel
theorem dX8_nearest_12 : decode cX8_nearest 12 = .ok (.lstore 4, 2) := by decide +kernel
theorem dX8_nearest_14 : decode cX8_nearest 14 = .ok (.ldc2_w 312, 3) := by decide +kernel
theorem dX8_nearest_17 : decode cX8_nearest 17 = .ok (.lload 4, 2) := by decide +kernel
theorem dX8_nearest_19 : decode cX8_nearest 19 = .ok (.lmul, 1) := by decide +kernel
theorem dX8_nearest_20 : decode cX8_nearest 20 = .ok (.lload_n 2, 1) := by decide +kernel
theorem dX8_nearest_21 : decode cX8_nearest 21 = .ok (.ladd, 1) := by decide +kernel
theorem dX8_nearest_22 : decode cX8_nearest 22 = .ok (.lconst 1, 1) := by decide +kernel
theorem dX8_nearest_23 : decode cX8_nearest 23 = .ok (.lsub, 1) := by decide +kernel
theorem dX8_nearest_24 : decode cX8_nearest 24 = .ok (.ldc2_w 312, 3) := by decide +kernel
theorem dX8_nearest_27 : decode cX8_nearest 27 = .ok (.lload_n 2, 1) := by decide +kernel
theorem dX8_nearest_28 : decode cX8_nearest 28 = .ok (.lmul, 1) := by decide +kernel
theorem dX8_nearest_29 : decode cX8_nearest 29 = .ok (.ldiv, 1) := by decide +kernel
theorem dX8_nearest_30 : decode cX8_nearest 30 = .ok (.lstore 6, 2) := by decide +kernel
theorem dX8_nearest_32 : decode cX8_nearest 32 = .ok (.lload_n 0, 1) := by decide +kernel
theorem dX8_nearest_33 : decode cX8_nearest 33 = .ok (.lconst 0, 1) := by decide +kernel
theorem dX8_nearest_34 : decode cX8_nearest 34 = .ok (.lcmp, 1) := by decide +kernel
theorem dX8_nearest_35 : decode cX8_nearest 35 = .ok (.ifCond .ge 9, 3) := by decide +kernel
theorem dX8_nearest_38 : decode cX8_nearest 38 = .ok (.lload 6, 2) := by decide +kernel
theorem dX8_nearest_40 : decode cX8_nearest 40 = .ok (.lneg, 1) := by decide +kernel
theorem dX8_nearest_41 : decode cX8_nearest 41 = .ok (.goto 5, 3) := by decide +kernel
theorem dX8_nearest_44 : decode cX8_nearest 44 = .ok (.lload 6, 2) := by decide +kernel
theorem dX8_nearest_46 : decode cX8_nearest 46 = .ok (.lreturn, 1) := by decide +kernel
theorem dX8_sweep_0 : decode cX8_sweep 0 = .ok (.iconst 0, 1) := by decide +kernel
theorem dX8_sweep_1 : decode cX8_sweep 1 = .ok (.istore_n 1, 1) := by decide +kernel
theorem dX8_sweep_2 : decode cX8_sweep 2 = .ok (.iconst 0, 1) := by decide +kernel
theorem dX8_sweep_3 : decode cX8_sweep 3 = .ok (.istore_n 2, 1) := by decide +kernel
theorem dX8_sweep_4 : decode cX8_sweep 4 = .ok (.iload_n 2, 1) := by decide +kernel
theorem dX8_sweep_5 : decode cX8_sweep 5 = .ok (.aload_n 0, 1) := by decide +kernel
theorem dX8_sweep_6 : decode cX8_sweep 6 = .ok (.getfield 288, 3) := by decide +kernel
theorem dX8_sweep_9 : decode cX8_sweep 9 = .ok (.if_icmp .ge 124, 3) := by decide +kernel
theorem dX8_sweep_12 : decode cX8_sweep 12 = .ok (.aload_n 0, 1) := by decide +kernel
theorem dX8_sweep_13 : decode cX8_sweep 13 = .ok (.iload_n 2, 1) := by decide +kernel
theorem dX8_sweep_14 : decode cX8_sweep 14 = .ok (.invokevirtual 337, 3) := by decide +kernel
theorem dX8_sweep_17 : decode cX8_sweep 17 = .ok (.aload_n 0, 1) := by decide +kernel
theorem dX8_sweep_18 : decode cX8_sweep 18 = .ok (.iload_n 2, 1) := by decide +kernel
theorem dX8_sweep_19 : decode cX8_sweep 19 = .ok (.invokevirtual 340, 3) := by decide +kernel
theorem dX8_sweep_22 : decode cX8_sweep 22 = .ok (.invokestatic 343, 3) := by decide +kernel
theorem dX8_sweep_25 : decode cX8_sweep 25 = .ok (.lstore_n 3, 1) := by decide +kernel
theorem dX8_sweep_26 : decode cX8_sweep 26 = .ok (.lload_n 3, 1) := by decide +kernel
theorem dX8_sweep_27 : decode cX8_sweep 27 = .ok (.ldc2_w 347, 3) := by decide +kernel
theorem dX8_sweep_30 : decode cX8_sweep 30 = .ok (.lcmp, 1) := by decide +kernel
theorem dX8_sweep_31 : decode cX8_sweep 31 = .ok (.ifCond .le 9, 3) := by decide +kernel
theorem dX8_sweep_34 : decode cX8_sweep 34 = .ok (.ldc2_w 347, 3) := by decide +kernel
theorem dX8_sweep_37 : decode cX8_sweep 37 = .ok (.goto 18, 3) := by decide +kernel
theorem dX8_sweep_40 : decode cX8_sweep 40 = .ok (.lload_n 3, 1) := by decide +kernel
theorem dX8_sweep_41 : decode cX8_sweep 41 = .ok (.ldc2_w 349, 3) := by decide +kernel
theorem dX8_sweep_44 : decode cX8_sweep 44 = .ok (.lcmp, 1) := by decide +kernel
theorem dX8_sweep_45 : decode cX8_sweep 45 = .ok (.ifCond .ge 9, 3) := by decide +kernel
theorem dX8_sweep_48 : decode cX8_sweep 48 = .ok (.ldc2_w 349, 3) := by decide +kernel
theorem dX8_sweep_51 : decode cX8_sweep 51 = .ok (.goto 4, 3) := by decide +kernel
theorem dX8_sweep_54 : decode cX8_sweep 54 = .ok (.lload_n 3, 1) := by decide +kernel
theorem dX8_sweep_55 : decode cX8_sweep 55 = .ok (.lstore_n 3, 1) := by decide +kernel
theorem dX8_sweep_56 : decode cX8_sweep 56 = .ok (.iconst 0, 1) := by decide +kernel
theorem dX8_sweep_57 : decode cX8_sweep 57 = .ok (.istore 5, 2) := by decide +kernel
theorem dX8_sweep_59 : decode cX8_sweep 59 = .ok (.iload 5, 2) := by decide +kernel
theorem dX8_sweep_61 : decode cX8_sweep 61 = .ok (.aload_n 0, 1) := by decide +kernel
theorem dX8_sweep_62 : decode cX8_sweep 62 = .ok (.getfield 62, 3) := by decide +kernel
theorem dX8_sweep_65 : decode cX8_sweep 65 = .ok (.iload_n 2, 1) := by decide +kernel
theorem dX8_sweep_66 : decode cX8_sweep 66 = .ok (.iaload, 1) := by decide +kernel
theorem dX8_sweep_67 : decode cX8_sweep 67 = .ok (.if_icmp .ge 44, 3) := by decide +kernel
theorem dX8_sweep_70 : decode cX8_sweep 70 = .ok (.aload_n 0, 1) := by decide +kernel
theorem dX8_sweep_71 : decode cX8_sweep 71 = .ok (.getfield 52, 3) := by decide +kernel
theorem dX8_sweep_74 : decode cX8_sweep 74 = .ok (.aload_n 0, 1) := by decide +kernel
theorem dX8_sweep_75 : decode cX8_sweep 75 = .ok (.getfield 56, 3) := by decide +kernel
theorem dX8_sweep_78 : decode cX8_sweep 78 = .ok (.bipush 14, 2) := by decide +kernel
theorem dX8_sweep_80 : decode cX8_sweep 80 = .ok (.iload_n 2, 1) := by decide +kernel
theorem dX8_sweep_81 : decode cX8_sweep 81 = .ok (.imul, 1) := by decide +kernel
theorem dX8_sweep_82 : decode cX8_sweep 82 = .ok (.iload 5, 2) := by decide +kernel
theorem dX8_sweep_84 : decode cX8_sweep 84 = .ok (.iadd, 1) := by decide +kernel
theorem dX8_sweep_85 : decode cX8_sweep 85 = .ok (.iaload, 1) := by decide +kernel
theorem dX8_sweep_86 : decode cX8_sweep 86 = .ok (.dup2, 1) := by decide +kernel
theorem dX8_sweep_87 : decode cX8_sweep 87 = .ok (.laload, 1) := by decide +kernel
theorem dX8_sweep_88 : decode cX8_sweep 88 = .ok (.aload_n 0, 1) := by decide +kernel
theorem dX8_sweep_89 : decode cX8_sweep 89 = .ok (.getfield 59, 3) := by decide +kernel
theorem dX8_sweep_92 : decode cX8_sweep 92 = .ok (.bipush 14, 2) := by decide +kernel
theorem dX8_sweep_94 : decode cX8_sweep 94 = .ok (.iload_n 2, 1) := by decide +kernel
theorem dX8_sweep_95 : decode cX8_sweep 95 = .ok (.imul, 1) := by decide +kernel
theorem dX8_sweep_96 : decode cX8_sweep 96 = .ok (.iload 5, 2) := by decide +kernel
theorem dX8_sweep_98 : decode cX8_sweep 98 = .ok (.iadd, 1) := by decide +kernel
theorem dX8_sweep_99 : decode cX8_sweep 99 = .ok (.iaload, 1) := by decide +kernel
theorem dX8_sweep_100 : decode cX8_sweep 100 = .ok (.i2l, 1) := by decide +kernel
theorem dX8_sweep_101 : decode cX8_sweep 101 = .ok (.lload_n 3, 1) := by decide +kernel
theorem dX8_sweep_102 : decode cX8_sweep 102 = .ok (.lmul, 1) := by decide +kernel
theorem dX8_sweep_103 : decode cX8_sweep 103 = .ok (.lsub, 1) := by decide +kernel
theorem dX8_sweep_104 : decode cX8_sweep 104 = .ok (.lastore, 1) := by decide +kernel
theorem dX8_sweep_105 : decode cX8_sweep 105 = .ok (.iinc 5 1, 3) := by decide +kernel
theorem dX8_sweep_108 : decode cX8_sweep 108 = .ok (.goto (-49), 3) := by decide +kernel
theorem dX8_sweep_111 : decode cX8_sweep 111 = .ok (.iload_n 1, 1) := by decide +kernel
theorem dX8_sweep_112 : decode cX8_sweep 112 = .ok (.ifCond .ne 9, 3) := by decide +kernel
theorem dX8_sweep_115 : decode cX8_sweep 115 = .ok (.lload_n 3, 1) := by decide +kernel
theorem dX8_sweep_116 : decode cX8_sweep 116 = .ok (.lconst 0, 1) := by decide +kernel
theorem dX8_sweep_117 : decode cX8_sweep 117 = .ok (.lcmp, 1) := by decide +kernel
theorem dX8_sweep_118 : decode cX8_sweep 118 = .ok (.ifCond .eq 7, 3) := by decide +kernel
theorem dX8_sweep_121 : decode cX8_sweep 121 = .ok (.iconst 1, 1) := by decide +kernel
theorem dX8_sweep_122 : decode cX8_sweep 122 = .ok (.goto 4, 3) := by decide +kernel
theorem dX8_sweep_125 : decode cX8_sweep 125 = .ok (.iconst 0, 1) := by decide +kernel
theorem dX8_sweep_126 : decode cX8_sweep 126 = .ok (.istore_n 1, 1) := by decide +kernel
theorem dX8_sweep_127 : decode cX8_sweep 127 = .ok (.iinc 2 1, 3) := by decide +kernel
theorem dX8_sweep_130 : decode cX8_sweep 130 = .ok (.goto (-126), 3) := by decide +kernel
theorem dX8_sweep_133 : decode cX8_sweep 133 = .ok (.iload_n 1, 1) := by decide +kernel
theorem dX8_sweep_134 : decode cX8_sweep 134 = .ok (.ireturn, 1) := by decide +kernel
theorem dX8_laysNet_0 : decode cX8_laysNet 0 = .ok (.aload_n 0, 1) := by decide +kernel
theorem dX8_laysNet_1 : decode cX8_laysNet 1 = .ok (.invokevirtual 351, 3) := by decide +kernel
theorem dX8_laysNet_4 : decode cX8_laysNet 4 = .ok (.aload_n 0, 1) := by decide +kernel
theorem dX8_laysNet_5 : decode cX8_laysNet 5 = .ok (.iconst 0, 1) := by decide +kernel
theorem dX8_laysNet_6 : decode cX8_laysNet 6 = .ok (.putfield 288, 3) := by decide +kernel
theorem dX8_laysNet_9 : decode cX8_laysNet 9 = .ok (.iconst 0, 1) := by decide +kernel
theorem dX8_laysNet_10 : decode cX8_laysNet 10 = .ok (.istore_n 1, 1) := by decide +kernel
theorem dX8_laysNet_11 : decode cX8_laysNet 11 = .ok (.iload_n 1, 1) := by decide +kernel
theorem dX8_laysNet_12 : decode cX8_laysNet 12 = .ok (.aload_n 0, 1) := by decide +kernel
theorem dX8_laysNet_13 : decode cX8_laysNet 13 = .ok (.getfield 232, 3) := by decide +kernel
theorem dX8_laysNet_16 : decode cX8_laysNet 16 = .ok (.if_icmp .ge 30, 3) := by decide +kernel
theorem dX8_laysNet_19 : decode cX8_laysNet 19 = .ok (.aload_n 0, 1) := by decide +kernel
theorem dX8_laysNet_20 : decode cX8_laysNet 20 = .ok (.iload_n 1, 1) := by decide +kernel
theorem dX8_laysNet_21 : decode cX8_laysNet 21 = .ok (.invokevirtual 275, 3) := by decide +kernel
theorem dX8_laysNet_24 : decode cX8_laysNet 24 = .ok (.ifCond .eq 16, 3) := by decide +kernel
theorem dX8_laysNet_27 : decode cX8_laysNet 27 = .ok (.aload_n 0, 1) := by decide +kernel
theorem dX8_laysNet_28 : decode cX8_laysNet 28 = .ok (.iload_n 1, 1) := by decide +kernel
