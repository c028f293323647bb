theorem dX8_takesJoint_14 : decode cX8_takesJoint 14 = .ok (.ireturn, 1) := by decide +kernel
theorem dX8_takesJoint_15 : decode cX8_takesJoint 15 = .ok (.aload_n 0, 1) := by decide +kernel
theorem dX8_takesJoint_16 : decode cX8_takesJoint 16 = .ok (.invokevirtual 195, 3) := by decide +kernel
theorem dX8_takesJoint_19 : decode cX8_takesJoint 19 = .ok (.istore_n 2, 1) := by decide +kernel
theorem dX8_takesJoint_20 : decode cX8_takesJoint 20 = .ok (.iload_n 2, 1) := by decide +kernel
theorem dX8_takesJoint_21 : decode cX8_takesJoint 21 = .ok (.iconst (-1), 1) := by decide +kernel
theorem dX8_takesJoint_22 : decode cX8_takesJoint 22 = .ok (.if_icmp .eq 8, 3) := by decide +kernel
theorem dX8_takesJoint_25 : decode cX8_takesJoint 25 = .ok (.iload_n 2, 1) := by decide +kernel
theorem dX8_takesJoint_26 : decode cX8_takesJoint 26 = .ok (.iload_n 1, 1) := by decide +kernel
theorem dX8_takesJoint_27 : decode cX8_takesJoint 27 = .ok (.if_icmp .ne 11, 3) := by decide +kernel
theorem dX8_takesJoint_30 : decode cX8_takesJoint 30 = .ok (.aload_n 0, 1) := by decide +kernel
theorem dX8_takesJoint_31 : decode cX8_takesJoint 31 = .ok (.iconst 3, 1) := by decide +kernel
theorem dX8_takesJoint_32 : decode cX8_takesJoint 32 = .ok (.invokevirtual 181, 3) := by decide +kernel
theorem dX8_takesJoint_35 : decode cX8_takesJoint 35 = .ok (.pop, 1) := by decide +kernel
theorem dX8_takesJoint_36 : decode cX8_takesJoint 36 = .ok (.iconst (-1), 1) := by decide +kernel
theorem dX8_takesJoint_37 : decode cX8_takesJoint 37 = .ok (.ireturn, 1) := by decide +kernel
theorem dX8_takesJoint_38 : decode cX8_takesJoint 38 = .ok (.aload_n 0, 1) := by decide +kernel
theorem dX8_takesJoint_39 : decode cX8_takesJoint 39 = .ok (.invokevirtual 188, 3) := by decide +kernel
theorem dX8_takesJoint_42 : decode cX8_takesJoint 42 = .ok (.iload_n 2, 1) := by decide +kernel
theorem dX8_takesJoint_43 : decode cX8_takesJoint 43 = .ok (.ireturn, 1) := by decide +kernel
theorem dX8_readLifts_0 : decode cX8_readLifts 0 = .ok (.bipush 6, 2) := by decide +kernel
theorem dX8_readLifts_2 : decode cX8_readLifts 2 = .ok (.iload_n 1, 1) := by decide +kernel
theorem dX8_readLifts_3 : decode cX8_readLifts 3 = .ok (.imul, 1) := by decide +kernel
theorem dX8_readLifts_4 : decode cX8_readLifts 4 = .ok (.istore_n 2, 1) := by decide +kernel
theorem dX8_readLifts_5 : decode cX8_readLifts 5 = .ok (.aload_n 0, 1) := by decide +kernel
theorem dX8_readLifts_6 : decode cX8_readLifts 6 = .ok (.getfield 43, 3) := by decide +kernel
theorem dX8_readLifts_9 : decode cX8_readLifts 9 = .ok (.iload_n 1, 1) := by decide +kernel
theorem dX8_readLifts_10 : decode cX8_readLifts 10 = .ok (.iconst 0, 1) := by decide +kernel
theorem dX8_readLifts_11 : decode cX8_readLifts 11 = .ok (.iastore, 1) := by decide +kernel
theorem dX8_readLifts_12 : decode cX8_readLifts 12 = .ok (.iconst 1, 1) := by decide +kernel
theorem dX8_readLifts_13 : decode cX8_readLifts 13 = .ok (.istore_n 3, 1) := by decide +kernel
theorem dX8_readLifts_14 : decode cX8_readLifts 14 = .ok (.iload_n 3, 1) := by decide +kernel
theorem dX8_readLifts_15 : decode cX8_readLifts 15 = .ok (.ifCond .eq 153, 3) := by decide +kernel
theorem dX8_readLifts_18 : decode cX8_readLifts 18 = .ok (.aload_n 0, 1) := by decide +kernel
theorem dX8_readLifts_19 : decode cX8_readLifts 19 = .ok (.getfield 124, 3) := by decide +kernel
theorem dX8_readLifts_22 : decode cX8_readLifts 22 = .ok (.iconst 3, 1) := by decide +kernel
theorem dX8_readLifts_23 : decode cX8_readLifts 23 = .ok (.if_icmp .ne 48, 3) := by decide +kernel
theorem dX8_readLifts_26 : decode cX8_readLifts 26 = .ok (.aload_n 0, 1) := by decide +kernel
theorem dX8_readLifts_27 : decode cX8_readLifts 27 = .ok (.getfield 43, 3) := by decide +kernel
theorem dX8_readLifts_30 : decode cX8_readLifts 30 = .ok (.iload_n 1, 1) := by decide +kernel
theorem dX8_readLifts_31 : decode cX8_readLifts 31 = .ok (.iaload, 1) := by decide +kernel
theorem dX8_readLifts_32 : decode cX8_readLifts 32 = .ok (.bipush 6, 2) := by decide +kernel
theorem dX8_readLifts_34 : decode cX8_readLifts 34 = .ok (.if_icmp .ne 37, 3) := by decide +kernel
theorem dX8_readLifts_37 : decode cX8_readLifts 37 = .ok (.aload_n 0, 1) := by decide +kernel
theorem dX8_readLifts_38 : decode cX8_readLifts 38 = .ok (.aload_n 0, 1) := by decide +kernel
theorem dX8_readLifts_39 : decode cX8_readLifts 39 = .ok (.getfield 139, 3) := by decide +kernel
theorem dX8_readLifts_42 : decode cX8_readLifts 42 = .ok (.i2l, 1) := by decide +kernel
theorem dX8_readLifts_43 : decode cX8_readLifts 43 = .ok (.lconst 0, 1) := by decide +kernel
theorem dX8_readLifts_44 : decode cX8_readLifts 44 = .ok (.aload_n 0, 1) := by decide +kernel
theorem dX8_readLifts_45 : decode cX8_readLifts 45 = .ok (.getfield 40, 3) := by decide +kernel
theorem dX8_readLifts_48 : decode cX8_readLifts 48 = .ok (.iload_n 2, 1) := by decide +kernel
theorem dX8_readLifts_49 : decode cX8_readLifts 49 = .ok (.bipush 6, 2) := by decide +kernel
theorem dX8_readLifts_51 : decode cX8_readLifts 51 = .ok (.iadd, 1) := by decide +kernel
theorem dX8_readLifts_52 : decode cX8_readLifts 52 = .ok (.iconst 1, 1) := by decide +kernel
theorem dX8_readLifts_53 : decode cX8_readLifts 53 = .ok (.isub, 1) := by decide +kernel
theorem dX8_readLifts_54 : decode cX8_readLifts 54 = .ok (.iaload, 1) := by decide +kernel
theorem dX8_readLifts_55 : decode cX8_readLifts 55 = .ok (.i2l, 1) := by decide +kernel
theorem dX8_readLifts_56 : decode cX8_readLifts 56 = .ok (.invokestatic 131, 3) := by decide +kernel
theorem dX8_readLifts_59 : decode cX8_readLifts 59 = .ok (.ifCond .eq 7, 3) := by decide +kernel
theorem dX8_readLifts_62 : decode cX8_readLifts 62 = .ok (.iconst 4, 1) := by decide +kernel
theorem dX8_readLifts_63 : decode cX8_readLifts 63 = .ok (.goto 4, 3) := by decide +kernel
theorem dX8_readLifts_66 : decode cX8_readLifts 66 = .ok (.iconst 2, 1) := by decide +kernel
theorem dX8_readLifts_67 : decode cX8_readLifts 67 = .ok (.invokevirtual 181, 3) := by decide +kernel
theorem dX8_readLifts_70 : decode cX8_readLifts 70 = .ok (.ireturn, 1) := by decide +kernel
theorem dX8_readLifts_71 : decode cX8_readLifts 71 = .ok (.aload_n 0, 1) := by decide +kernel
theorem dX8_readLifts_72 : decode cX8_readLifts 72 = .ok (.getfield 43, 3) := by decide +kernel
theorem dX8_readLifts_75 : decode cX8_readLifts 75 = .ok (.iload_n 1, 1) := by decide +kernel
theorem dX8_readLifts_76 : decode cX8_readLifts 76 = .ok (.iaload, 1) := by decide +kernel
theorem dX8_readLifts_77 : decode cX8_readLifts 77 = .ok (.ifCond .ne 9, 3) := by decide +kernel
theorem dX8_readLifts_80 : decode cX8_readLifts 80 = .ok (.sipush 300, 3) := by decide +kernel
theorem dX8_readLifts_83 : decode cX8_readLifts 83 = .ok (.goto 18, 3) := by decide +kernel
theorem dX8_readLifts_86 : decode cX8_readLifts 86 = .ok (.aload_n 0, 1) := by decide +kernel
theorem dX8_readLifts_87 : decode cX8_readLifts 87 = .ok (.getfield 40, 3) := by decide +kernel
theorem dX8_readLifts_90 : decode cX8_readLifts 90 = .ok (.iload_n 2, 1) := by decide +kernel
theorem dX8_readLifts_91 : decode cX8_readLifts 91 = .ok (.aload_n 0, 1) := by decide +kernel
theorem dX8_readLifts_92 : decode cX8_readLifts 92 = .ok (.getfield 43, 3) := by decide +kernel
theorem dX8_readLifts_95 : decode cX8_readLifts 95 = .ok (.iload_n 1, 1) := by decide +kernel
theorem dX8_readLifts_96 : decode cX8_readLifts 96 = .ok (.iaload, 1) := by decide +kernel
theorem dX8_readLifts_97 : decode cX8_readLifts 97 = .ok (.iadd, 1) := by decide +kernel
theorem dX8_readLifts_98 : decode cX8_readLifts 98 = .ok (.iconst 1, 1) := by decide +kernel
theorem dX8_readLifts_99 : decode cX8_readLifts 99 = .ok (.isub, 1) := by decide +kernel
theorem dX8_readLifts_100 : decode cX8_readLifts 100 = .ok (.iaload, 1) := by decide +kernel
theorem dX8_readLifts_101 : decode cX8_readLifts 101 = .ok (.istore 4, 2) := by decide +kernel
theorem dX8_readLifts_103 : decode cX8_readLifts 103 = .ok (.aload_n 0, 1) := by decide +kernel
theorem dX8_readLifts_104 : decode cX8_readLifts 104 = .ok (.iconst 0, 1) := by decide +kernel
theorem dX8_readLifts_105 : decode cX8_readLifts 105 = .ok (.iload 4, 2) := by decide +kernel
theorem dX8_readLifts_107 : decode cX8_readLifts 107 = .ok (.invokevirtual 201, 3) := by decide +kernel
theorem dX8_readLifts_110 : decode cX8_readLifts 110 = .ok (.ifCond .ne 5, 3) := by decide +kernel
theorem dX8_readLifts_113 : decode cX8_readLifts 113 = .ok (.iconst 0, 1) := by decide +kernel
theorem dX8_readLifts_114 : decode cX8_readLifts 114 = .ok (.ireturn, 1) := by decide +kernel
theorem dX8_readLifts_115 : decode cX8_readLifts 115 = .ok (.aload_n 0, 1) := by decide +kernel
theorem dX8_readLifts_116 : decode cX8_readLifts 116 = .ok (.getfield 40, 3) := by decide +kernel
theorem dX8_readLifts_119 : decode cX8_readLifts 119 = .ok (.iload_n 2, 1) := by decide +kernel
theorem dX8_readLifts_120 : decode cX8_readLifts 120 = .ok (.aload_n 0, 1) := by decide +kernel
theorem dX8_readLifts_121 : decode cX8_readLifts 121 = .ok (.getfield 43, 3) := by decide +kernel
theorem dX8_readLifts_124 : decode cX8_readLifts 124 = .ok (.iload_n 1, 1) := by decide +kernel
theorem dX8_readLifts_125 : decode cX8_readLifts 125 = .ok (.iaload, 1) := by decide +kernel
theorem dX8_readLifts_126 : decode cX8_readLifts 126 = .ok (.iadd, 1) := by decide +kernel
theorem dX8_readLifts_127 : decode cX8_readLifts 127 = .ok (.aload_n 0, 1) := by decide +kernel
theorem dX8_readLifts_128 : decode cX8_readLifts 128 = .ok (.getfield 185, 3) := by decide +kernel
theorem dX8_readLifts_131 : decode cX8_readLifts 131 = .ok (.iastore, 1) := by decide +kernel
theorem dX8_readLifts_132 : decode cX8_readLifts 132 = .ok (.aload_n 0, 1) := by decide +kernel
theorem dX8_readLifts_133 : decode cX8_readLifts 133 = .ok (.getfield 43, 3) := by decide +kernel
theorem dX8_readLifts_136 : decode cX8_readLifts 136 = .ok (.iload_n 1, 1) := by decide +kernel
theorem dX8_readLifts_137 : decode cX8_readLifts 137 = .ok (.dup2, 1) := by decide +kernel
theorem dX8_readLifts_138 : decode cX8_readLifts 138 = .ok (.iaload, 1) := by decide +kernel
theorem dX8_readLifts_139 : decode cX8_readLifts 139 = .ok (.iconst 1, 1) := by decide +kernel
theorem dX8_readLifts_140 : decode cX8_readLifts 140 = .ok (.iadd, 1) := by decide +kernel
theorem dX8_readLifts_141 : decode cX8_readLifts 141 = .ok (.iastore, 1) := by decide +kernel
theorem dX8_readLifts_142 : decode cX8_readLifts 142 = .ok (.aload_n 0, 1) := by decide +kernel
theorem dX8_readLifts_143 : decode cX8_readLifts 143 = .ok (.getfield 124, 3) := by decide +kernel
theorem dX8_readLifts_146 : decode cX8_readLifts 146 = .ok (.bipush 44, 2) := by decide +kernel
theorem dX8_readLifts_148 : decode cX8_readLifts 148 = .ok (.if_icmp .ne 7, 3) := by decide +kernel
theorem dX8_readLifts_151 : decode cX8_readLifts 151 = .ok (.iconst 1, 1) := by decide +kernel
theorem dX8_readLifts_152 : decode cX8_readLifts 152 = .ok (.goto 4, 3) := by decide +kernel
theorem dX8_readLifts_155 : decode cX8_readLifts 155 = .ok (.iconst 0, 1) := by decide +kernel
theorem dX8_readLifts_156 : decode cX8_readLifts 156 = .ok (.istore_n 3, 1) := by decide +kernel
theorem dX8_readLifts_157 : decode cX8_readLifts 157 = .ok (.iload_n 3, 1) := by decide +kernel
theorem dX8_readLifts_158 : decode cX8_readLifts 158 = .ok (.ifCond .eq 7, 3) := by decide +kernel
theorem dX8_readLifts_161 : decode cX8_readLifts 161 = .ok (.aload_n 0, 1) := by decide +kernel
theorem dX8_readLifts_162 : decode cX8_readLifts 162 = .ok (.invokevirtual 188, 3) := by decide +kernel
theorem dX8_readLifts_165 : decode cX8_readLifts 165 = .ok (.goto (-151), 3) := by decide +kernel
theorem dX8_readLifts_168 : decode cX8_readLifts 168 = .ok (.iconst 1, 1) := by decide +kernel
theorem dX8_readLifts_169 : decode cX8_readLifts 169 = .ok (.ireturn, 1) := by decide +kernel
theorem dX8_readEdge_0 : decode cX8_readEdge 0 = .ok (.aload_n 0, 1) := by decide +kernel
theorem dX8_readEdge_1 : decode cX8_readEdge 1 = .ok (.getfield 205, 3) := by decide +kernel
theorem dX8_readEdge_4 : decode cX8_readEdge 4 = .ok (.bipush 14, 2) := by decide +kernel
theorem dX8_readEdge_6 : decode cX8_readEdge 6 = .ok (.if_icmp .ne 9, 3) := by decide +kernel
theorem dX8_readEdge_9 : decode cX8_readEdge 9 = .ok (.aload_n 0, 1) := by decide +kernel
theorem dX8_readEdge_10 : decode cX8_readEdge 10 = .ok (.iconst 4, 1) := by decide +kernel
theorem dX8_readEdge_11 : decode cX8_readEdge 11 = .ok (.invokevirtual 181, 3) := by decide +kernel
theorem dX8_readEdge_14 : decode cX8_readEdge 14 = .ok (.ireturn, 1) := by decide +kernel
theorem dX8_readEdge_15 : decode cX8_readEdge 15 = .ok (.aload_n 0, 1) := by decide +kernel
theorem dX8_readEdge_16 : decode cX8_readEdge 16 = .ok (.invokevirtual 188, 3) := by decide +kernel
theorem dX8_readEdge_19 : decode cX8_readEdge 19 = .ok (.bipush 14, 2) := by decide +kernel
theorem dX8_readEdge_21 : decode cX8_readEdge 21 = .ok (.aload_n 0, 1) := by decide +kernel
theorem dX8_readEdge_22 : decode cX8_readEdge 22 = .ok (.getfield 205, 3) := by decide +kernel
theorem dX8_readEdge_25 : decode cX8_readEdge 25 = .ok (.iadd, 1) := by decide +kernel
theorem dX8_readEdge_26 : decode cX8_readEdge 26 = .ok (.istore_n 2, 1) := by decide +kernel
theorem dX8_readEdge_27 : decode cX8_readEdge 27 = .ok (.aload_n 0, 1) := by decide +kernel
theorem dX8_readEdge_28 : decode cX8_readEdge 28 = .ok (.getfield 28, 3) := by decide +kernel
theorem dX8_readEdge_31 : decode cX8_readEdge 31 = .ok (.iload_n 2, 1) := by decide +kernel
theorem dX8_readEdge_32 : decode cX8_readEdge 32 = .ok (.aload_n 0, 1) := by decide +kernel
theorem dX8_readEdge_33 : decode cX8_readEdge 33 = .ok (.iconst (-1), 1) := by decide +kernel
theorem dX8_readEdge_34 : decode cX8_readEdge 34 = .ok (.invokevirtual 208, 3) := by decide +kernel
theorem dX8_readEdge_37 : decode cX8_readEdge 37 = .ok (.iastore, 1) := by decide +kernel
theorem dX8_readEdge_38 : decode cX8_readEdge 38 = .ok (.aload_n 0, 1) := by decide +kernel
theorem dX8_readEdge_39 : decode cX8_readEdge 39 = .ok (.getfield 28, 3) := by decide +kernel
theorem dX8_readEdge_42 : decode cX8_readEdge 42 = .ok (.iload_n 2, 1) := by decide +kernel
theorem dX8_readEdge_43 : decode cX8_readEdge 43 = .ok (.iaload, 1) := by decide +kernel
theorem dX8_readEdge_44 : decode cX8_readEdge 44 = .ok (.iconst (-1), 1) := by decide +kernel
theorem dX8_readEdge_45 : decode cX8_readEdge 45 = .ok (.if_icmp .ne 5, 3) := by decide +kernel
theorem dX8_readEdge_48 : decode cX8_readEdge 48 = .ok (.iconst 0, 1) := by decide +kernel
theorem dX8_readEdge_49 : decode cX8_readEdge 49 = .ok (.ireturn, 1) := by decide +kernel
theorem dX8_readEdge_50 : decode cX8_readEdge 50 = .ok (.aload_n 0, 1) := by decide +kernel
theorem dX8_readEdge_51 : decode cX8_readEdge 51 = .ok (.getfield 31, 3) := by decide +kernel
theorem dX8_readEdge_54 : decode cX8_readEdge 54 = .ok (.iload_n 2, 1) := by decide +kernel
theorem dX8_readEdge_55 : decode cX8_readEdge 55 = .ok (.aload_n 0, 1) := by decide +kernel
theorem dX8_readEdge_56 : decode cX8_readEdge 56 = .ok (.aload_n 0, 1) := by decide +kernel
theorem dX8_readEdge_57 : decode cX8_readEdge 57 = .ok (.getfield 28, 3) := by decide +kernel
theorem dX8_readEdge_60 : decode cX8_readEdge 60 = .ok (.iload_n 2, 1) := by decide +kernel
theorem dX8_readEdge_61 : decode cX8_readEdge 61 = .ok (.iaload, 1) := by decide +kernel
theorem dX8_readEdge_62 : decode cX8_readEdge 62 = .ok (.invokevirtual 208, 3) := by decide +kernel
theorem dX8_readEdge_65 : decode cX8_readEdge 65 = .ok (.iastore, 1) := by decide +kernel
theorem dX8_readEdge_66 : decode cX8_readEdge 66 = .ok (.aload_n 0, 1) := by decide +kernel
theorem dX8_readEdge_67 : decode cX8_readEdge 67 = .ok (.getfield 31, 3) := by decide +kernel
theorem dX8_readEdge_70 : decode cX8_readEdge 70 = .ok (.iload_n 2, 1) := by decide +kernel
theorem dX8_readEdge_71 : decode cX8_readEdge 71 = .ok (.iaload, 1) := by decide +kernel
theorem dX8_readEdge_72 : decode cX8_readEdge 72 = .ok (.iconst (-1), 1) := by decide +kernel
theorem dX8_readEdge_73 : decode cX8_readEdge 73 = .ok (.if_icmp .ne 5, 3) := by decide +kernel
theorem dX8_readEdge_76 : decode cX8_readEdge 76 = .ok (.iconst 0, 1) := by decide +kernel
theorem dX8_readEdge_77 : decode cX8_readEdge 77 = .ok (.ireturn, 1) := by decide +kernel
theorem dX8_readEdge_78 : decode cX8_readEdge 78 = .ok (.aload_n 0, 1) := by decide +kernel
theorem dX8_readEdge_79 : decode cX8_readEdge 79 = .ok (.getfield 34, 3) := by decide +kernel
theorem dX8_readEdge_82 : decode cX8_readEdge 82 = .ok (.iload_n 2, 1) := by decide +kernel
theorem dX8_readEdge_83 : decode cX8_readEdge 83 = .ok (.iload_n 1, 1) := by decide +kernel
theorem dX8_readEdge_84 : decode cX8_readEdge 84 = .ok (.iastore, 1) := by decide +kernel
theorem dX8_readEdge_85 : decode cX8_readEdge 85 = .ok (.aload_n 0, 1) := by decide +kernel
theorem dX8_readEdge_86 : decode cX8_readEdge 86 = .ok (.getfield 37, 3) := by decide +kernel
theorem dX8_readEdge_89 : decode cX8_readEdge 89 = .ok (.iload_n 2, 1) := by decide +kernel
theorem dX8_readEdge_90 : decode cX8_readEdge 90 = .ok (.bipush (-2), 2) := by decide +kernel
theorem dX8_readEdge_92 : decode cX8_readEdge 92 = .ok (.iastore, 1) := by decide +kernel
theorem dX8_readEdge_93 : decode cX8_readEdge 93 = .ok (.aload_n 0, 1) := by decide +kernel
theorem dX8_readEdge_94 : decode cX8_readEdge 94 = .ok (.getfield 43, 3) := by decide +kernel
theorem dX8_readEdge_97 : decode cX8_readEdge 97 = .ok (.iload_n 2, 1) := by decide +kernel
theorem dX8_readEdge_98 : decode cX8_readEdge 98 = .ok (.iconst 0, 1) := by decide +kernel
theorem dX8_readEdge_99 : decode cX8_readEdge 99 = .ok (.iastore, 1) := by decide +kernel
theorem dX8_readEdge_100 : decode cX8_readEdge 100 = .ok (.iload_n 1, 1) := by decide +kernel
theorem dX8_readEdge_101 : decode cX8_readEdge 101 = .ok (.iconst 2, 1) := by decide +kernel
theorem dX8_readEdge_102 : decode cX8_readEdge 102 = .ok (.if_icmp .ne 13, 3) := by decide +kernel
theorem dX8_readEdge_105 : decode cX8_readEdge 105 = .ok (.aload_n 0, 1) := by decide +kernel
theorem dX8_readEdge_106 : decode cX8_readEdge 106 = .ok (.iload_n 2, 1) := by decide +kernel
theorem dX8_readEdge_107 : decode cX8_readEdge 107 = .ok (.invokevirtual 211, 3) := by decide +kernel
theorem dX8_readEdge_110 : decode cX8_readEdge 110 = .ok (.ifCond .ne 27, 3) := by decide +kernel
theorem dX8_readEdge_113 : decode cX8_readEdge 113 = .ok (.iconst 0, 1) := by decide +kernel
theorem dX8_readEdge_114 : decode cX8_readEdge 114 = .ok (.ireturn, 1) := by decide +kernel
theorem dX8_readEdge_115 : decode cX8_readEdge 115 = .ok (.aload_n 0, 1) := by decide +kernel
theorem dX8_readEdge_116 : decode cX8_readEdge 116 = .ok (.iconst 1, 1) := by decide +kernel
theorem dX8_readEdge_117 : decode cX8_readEdge 117 = .ok (.bipush 20, 2) := by decide +kernel
theorem dX8_readEdge_119 : decode cX8_readEdge 119 = .ok (.invokevirtual 201, 3) := by decide +kernel
theorem dX8_readEdge_122 : decode cX8_readEdge 122 = .ok (.ifCond .ne 5, 3) := by decide +kernel
theorem dX8_readEdge_125 : decode cX8_readEdge 125 = .ok (.iconst 0, 1) := by decide +kernel
theorem dX8_readEdge_126 : decode cX8_readEdge 126 = .ok (.ireturn, 1) := by decide +kernel
theorem dX8_readEdge_127 : decode cX8_readEdge 127 = .ok (.aload_n 0, 1) := by decide +kernel
theorem dX8_readEdge_128 : decode cX8_readEdge 128 = .ok (.getfield 37, 3) := by decide +kernel
theorem dX8_readEdge_131 : decode cX8_readEdge 131 = .ok (.iload_n 2, 1) := by decide +kernel
theorem dX8_readEdge_132 : decode cX8_readEdge 132 = .ok (.aload_n 0, 1) := by decide +kernel
theorem dX8_readEdge_133 : decode cX8_readEdge 133 = .ok (.getfield 185, 3) := by decide +kernel
theorem dX8_readEdge_136 : decode cX8_readEdge 136 = .ok (.iastore, 1) := by decide +kernel
theorem dX8_readEdge_137 : decode cX8_readEdge 137 = .ok (.aload_n 0, 1) := by decide +kernel
theorem dX8_readEdge_138 : decode cX8_readEdge 138 = .ok (.dup, 1) := by decide +kernel
theorem dX8_readEdge_139 : decode cX8_readEdge 139 = .ok (.getfield 205, 3) := by decide +kernel
theorem dX8_readEdge_142 : decode cX8_readEdge 142 = .ok (.iconst 1, 1) := by decide +kernel
theorem dX8_readEdge_143 : decode cX8_readEdge 143 = .ok (.iadd, 1) := by decide +kernel
theorem dX8_readEdge_144 : decode cX8_readEdge 144 = .ok (.putfield 205, 3) := by decide +kernel
theorem dX8_readEdge_147 : decode cX8_readEdge 147 = .ok (.iconst 1, 1) := by decide +kernel
theorem dX8_readEdge_148 : decode cX8_readEdge 148 = .ok (.ireturn, 1) := by decide +kernel
theorem dX8_readLine_0 : decode cX8_readLine 0 = .ok (.aload_n 0, 1) := by decide +kernel
theorem dX8_readLine_1 : decode cX8_readLine 1 = .ok (.ldc 164, 2) := by decide +kernel
theorem dX8_readLine_3 : decode cX8_readLine 3 = .ok (.invokevirtual 160, 3) := by decide +kernel
theorem dX8_readLine_6 : decode cX8_readLine 6 = .ok (.ifCond .eq 8, 3) := by decide +kernel
theorem dX8_readLine_9 : decode cX8_readLine 9 = .ok (.aload_n 0, 1) := by decide +kernel
theorem dX8_readLine_10 : decode cX8_readLine 10 = .ok (.invokevirtual 214, 3) := by decide +kernel
theorem dX8_readLine_13 : decode cX8_readLine 13 = .ok (.ireturn, 1) := by decide +kernel
theorem dX8_readLine_14 : decode cX8_readLine 14 = .ok (.aload_n 0, 1) := by decide +kernel
theorem dX8_readLine_15 : decode cX8_readLine 15 = .ok (.ldc 168, 2) := by decide +kernel
theorem dX8_readLine_17 : decode cX8_readLine 17 = .ok (.invokevirtual 160, 3) := by decide +kernel
theorem dX8_readLine_20 : decode cX8_readLine 20 = .ok (.ifCond .eq 11, 3) := by decide +kernel
theorem dX8_readLine_23 : decode cX8_readLine 23 = .ok (.aload_n 0, 1) := by decide +kernel
theorem dX8_readLine_24 : decode cX8_readLine 24 = .ok (.iconst 0, 1) := by decide +kernel
theorem dX8_readLine_25 : decode cX8_readLine 25 = .ok (.invokevirtual 217, 3) := by decide +kernel
theorem dX8_readLine_28 : decode cX8_readLine 28 = .ok (.goto 42, 3) := by decide +kernel
theorem dX8_readLine_31 : decode cX8_readLine 31 = .ok (.aload_n 0, 1) := by decide +kernel
theorem dX8_readLine_32 : decode cX8_readLine 32 = .ok (.ldc 170, 2) := by decide +kernel
theorem dX8_readLine_34 : decode cX8_readLine 34 = .ok (.invokevirtual 160, 3) := by decide +kernel
theorem dX8_readLine_37 : decode cX8_readLine 37 = .ok (.ifCond .eq 11, 3) := by decide +kernel
theorem dX8_readLine_40 : decode cX8_readLine 40 = .ok (.aload_n 0, 1) := by decide +kernel
theorem dX8_readLine_41 : decode cX8_readLine 41 = .ok (.iconst 1, 1) := by decide +kernel
theorem dX8_readLine_42 : decode cX8_readLine 42 = .ok (.invokevirtual 217, 3) := by decide +kernel
theorem dX8_readLine_45 : decode cX8_readLine 45 = .ok (.goto 25, 3) := by decide +kernel
theorem dX8_readLine_48 : decode cX8_readLine 48 = .ok (.aload_n 0, 1) := by decide +kernel
theorem dX8_readLine_49 : decode cX8_readLine 49 = .ok (.ldc 172, 2) := by decide +kernel
theorem dX8_readLine_51 : decode cX8_readLine 51 = .ok (.invokevirtual 160, 3) := by decide +kernel
theorem dX8_readLine_54 : decode cX8_readLine 54 = .ok (.ifCond .eq 11, 3) := by decide +kernel
theorem dX8_readLine_57 : decode cX8_readLine 57 = .ok (.aload_n 0, 1) := by decide +kernel
theorem dX8_readLine_58 : decode cX8_readLine 58 = .ok (.iconst 2, 1) := by decide +kernel
theorem dX8_readLine_59 : decode cX8_readLine 59 = .ok (.invokevirtual 217, 3) := by decide +kernel
theorem dX8_readLine_62 : decode cX8_readLine 62 = .ok (.goto 8, 3) := by decide +kernel
theorem dX8_readLine_65 : decode cX8_readLine 65 = .ok (.aload_n 0, 1) := by decide +kernel
theorem dX8_readLine_66 : decode cX8_readLine 66 = .ok (.iconst 1, 1) := by decide +kernel
theorem dX8_readLine_67 : decode cX8_readLine 67 = .ok (.invokevirtual 181, 3) := by decide +kernel
theorem dX8_readLine_70 : decode cX8_readLine 70 = .ok (.ireturn, 1) := by decide +kernel
theorem dX8_areMet_0 : decode cX8_areMet 0 = .ok (.iconst 1, 1) := by decide +kernel
theorem dX8_areMet_1 : decode cX8_areMet 1 = .ok (.istore_n 1, 1) := by decide +kernel
theorem dX8_areMet_2 : decode cX8_areMet 2 = .ok (.iconst 0, 1) := by decide +kernel
theorem dX8_areMet_3 : decode cX8_areMet 3 = .ok (.istore_n 2, 1) := by decide +kernel
theorem dX8_areMet_4 : decode cX8_areMet 4 = .ok (.iload_n 2, 1) := by decide +kernel
theorem dX8_areMet_5 : decode cX8_areMet 5 = .ok (.aload_n 0, 1) := by decide +kernel
theorem dX8_areMet_6 : decode cX8_areMet 6 = .ok (.getfield 174, 3) := by decide +kernel
theorem dX8_areMet_9 : decode cX8_areMet 9 = .ok (.if_icmp .ge 105, 3) := by decide +kernel
theorem dX8_areMet_12 : decode cX8_areMet 12 = .ok (.bipush 14, 2) := by decide +kernel
theorem dX8_areMet_14 : decode cX8_areMet 14 = .ok (.istore_n 3, 1) := by decide +kernel
theorem dX8_areMet_15 : decode cX8_areMet 15 = .ok (.iload_n 3, 1) := by decide +kernel
theorem dX8_areMet_16 : decode cX8_areMet 16 = .ok (.bipush 14, 2) := by decide +kernel
theorem dX8_areMet_18 : decode cX8_areMet 18 = .ok (.aload_n 0, 1) := by decide +kernel
theorem dX8_areMet_19 : decode cX8_areMet 19 = .ok (.getfield 205, 3) := by decide +kernel
theorem dX8_areMet_22 : decode cX8_areMet 22 = .ok (.iadd, 1) := by decide +kernel
theorem dX8_areMet_23 : decode cX8_areMet 23 = .ok (.if_icmp .ge 85, 3) := by decide +kernel
theorem dX8_areMet_26 : decode cX8_areMet 26 = .ok (.iload_n 1, 1) := by decide +kernel
theorem dX8_areMet_27 : decode cX8_areMet 27 = .ok (.aload_n 0, 1) := by decide +kernel
theorem dX8_areMet_28 : decode cX8_areMet 28 = .ok (.getfield 28, 3) := by decide +kernel
theorem dX8_areMet_31 : decode cX8_areMet 31 = .ok (.iload_n 3, 1) := by decide +kernel
theorem dX8_areMet_32 : decode cX8_areMet 32 = .ok (.iaload, 1) := by decide +kernel
theorem dX8_areMet_33 : decode cX8_areMet 33 = .ok (.ishr, 1) := by decide +kernel
theorem dX8_areMet_34 : decode cX8_areMet 34 = .ok (.iconst 1, 1) := by decide +kernel
theorem dX8_areMet_35 : decode cX8_areMet 35 = .ok (.iand, 1) := by decide +kernel
theorem dX8_areMet_36 : decode cX8_areMet 36 = .ok (.iconst 1, 1) := by decide +kernel
theorem dX8_areMet_37 : decode cX8_areMet 37 = .ok (.if_icmp .ne 7, 3) := by decide +kernel
theorem dX8_areMet_40 : decode cX8_areMet 40 = .ok (.iconst 1, 1) := by decide +kernel
theorem dX8_areMet_41 : decode cX8_areMet 41 = .ok (.goto 4, 3) := by decide +kernel
theorem dX8_areMet_44 : decode cX8_areMet 44 = .ok (.iconst 0, 1) := by decide +kernel
theorem dX8_areMet_45 : decode cX8_areMet 45 = .ok (.istore 4, 2) := by decide +kernel
theorem dX8_areMet_47 : decode cX8_areMet 47 = .ok (.iload_n 1, 1) := by decide +kernel
theorem dX8_areMet_48 : decode cX8_areMet 48 = .ok (.aload_n 0, 1) := by decide +kernel
theorem dX8_areMet_49 : decode cX8_areMet 49 = .ok (.getfield 31, 3) := by decide +kernel
theorem dX8_areMet_52 : decode cX8_areMet 52 = .ok (.iload_n 3, 1) := by decide +kernel
theorem dX8_areMet_53 : decode cX8_areMet 53 = .ok (.iaload, 1) := by decide +kernel
theorem dX8_areMet_54 : decode cX8_areMet 54 = .ok (.ishr, 1) := by decide +kernel
theorem dX8_areMet_55 : decode cX8_areMet 55 = .ok (.iconst 1, 1) := by decide +kernel
theorem dX8_areMet_56 : decode cX8_areMet 56 = .ok (.iand, 1) := by decide +kernel
theorem dX8_areMet_57 : decode cX8_areMet 57 = .ok (.iconst 1, 1) := by decide +kernel
theorem dX8_areMet_58 : decode cX8_areMet 58 = .ok (.if_icmp .ne 7, 3) := by decide +kernel
theorem dX8_areMet_61 : decode cX8_areMet 61 = .ok (.iconst 1, 1) := by decide +kernel
theorem dX8_areMet_62 : decode cX8_areMet 62 = .ok (.goto 4, 3) := by decide +kernel
theorem dX8_areMet_65 : decode cX8_areMet 65 = .ok (.iconst 0, 1) := by decide +kernel
theorem dX8_areMet_66 : decode cX8_areMet 66 = .ok (.istore 5, 2) := by decide +kernel
theorem dX8_areMet_68 : decode cX8_areMet 68 = .ok (.iload_n 1, 1) := by decide +kernel
theorem dX8_areMet_69 : decode cX8_areMet 69 = .ok (.iload 4, 2) := by decide +kernel
theorem dX8_areMet_71 : decode cX8_areMet 71 = .ok (.ifCond .ne 8, 3) := by decide +kernel
theorem dX8_areMet_74 : decode cX8_areMet 74 = .ok (.iload 5, 2) := by decide +kernel
theorem dX8_areMet_76 : decode cX8_areMet 76 = .ok (.ifCond .eq 23, 3) := by decide +kernel
theorem dX8_areMet_79 : decode cX8_areMet 79 = .ok (.iconst 1, 1) := by decide +kernel
theorem dX8_areMet_80 : decode cX8_areMet 80 = .ok (.aload_n 0, 1) := by decide +kernel
theorem dX8_areMet_81 : decode cX8_areMet 81 = .ok (.getfield 28, 3) := by decide +kernel
theorem dX8_areMet_84 : decode cX8_areMet 84 = .ok (.iload_n 3, 1) := by decide +kernel
theorem dX8_areMet_85 : decode cX8_areMet 85 = .ok (.iaload, 1) := by decide +kernel
theorem dX8_areMet_86 : decode cX8_areMet 86 = .ok (.ishl, 1) := by decide +kernel
theorem dX8_areMet_87 : decode cX8_areMet 87 = .ok (.iconst 1, 1) := by decide +kernel
theorem dX8_areMet_88 : decode cX8_areMet 88 = .ok (.aload_n 0, 1) := by decide +kernel
theorem dX8_areMet_89 : decode cX8_areMet 89 = .ok (.getfield 31, 3) := by decide +kernel
theorem dX8_areMet_92 : decode cX8_areMet 92 = .ok (.iload_n 3, 1) := by decide +kernel
theorem dX8_areMet_93 : decode cX8_areMet 93 = .ok (.iaload, 1) := by decide +kernel
theorem dX8_areMet_94 : decode cX8_areMet 94 = .ok (.ishl, 1) := by decide +kernel
theorem dX8_areMet_95 : decode cX8_areMet 95 = .ok (.ior, 1) := by decide +kernel
theorem dX8_areMet_96 : decode cX8_areMet 96 = .ok (.goto 4, 3) := by decide +kernel
theorem dX8_areMet_99 : decode cX8_areMet 99 = .ok (.iconst 0, 1) := by decide +kernel
theorem dX8_areMet_100 : decode cX8_areMet 100 = .ok (.ior, 1) := by decide +kernel
theorem dX8_areMet_101 : decode cX8_areMet 101 = .ok (.istore_n 1, 1) := by decide +kernel
theorem dX8_areMet_102 : decode cX8_areMet 102 = .ok (.iinc 3 1, 3) := by decide +kernel
theorem dX8_areMet_105 : decode cX8_areMet 105 = .ok (.goto (-90), 3) := by decide +kernel
theorem dX8_areMet_108 : decode cX8_areMet 108 = .ok (.iinc 2 1, 3) := by decide +kernel
theorem dX8_areMet_111 : decode cX8_areMet 111 = .ok (.goto (-107), 3) := by decide +kernel
theorem dX8_areMet_114 : decode cX8_areMet 114 = .ok (.iload_n 1, 1) := by decide +kernel
theorem dX8_areMet_115 : decode cX8_areMet 115 = .ok (.iconst 1, 1) := by decide +kernel
theorem dX8_areMet_116 : decode cX8_areMet 116 = .ok (.aload_n 0, 1) := by decide +kernel
theorem dX8_areMet_117 : decode cX8_areMet 117 = .ok (.getfield 174, 3) := by decide +kernel
theorem dX8_areMet_120 : decode cX8_areMet 120 = .ok (.ishl, 1) := by decide +kernel
theorem dX8_areMet_121 : decode cX8_areMet 121 = .ok (.iconst 1, 1) := by decide +kernel
theorem dX8_areMet_122 : decode cX8_areMet 122 = .ok (.isub, 1) := by decide +kernel
theorem dX8_areMet_123 : decode cX8_areMet 123 = .ok (.if_icmp .ne 7, 3) := by decide +kernel
theorem dX8_areMet_126 : decode cX8_areMet 126 = .ok (.iconst 1, 1) := by decide +kernel
theorem dX8_areMet_127 : decode cX8_areMet 127 = .ok (.goto 4, 3) := by decide +kernel
theorem dX8_areMet_130 : decode cX8_areMet 130 = .ok (.iconst 0, 1) := by decide +kernel
theorem dX8_areMet_131 : decode cX8_areMet 131 = .ok (.ireturn, 1) := by decide +kernel
theorem dX8_readAll_0 : decode cX8_readAll 0 = .ok (.aload_n 0, 1) := by decide +kernel
theorem dX8_readAll_1 : decode cX8_readAll 1 = .ok (.iload_n 1, 1) := by decide +kernel
theorem dX8_readAll_2 : decode cX8_readAll 2 = .ok (.putfield 111, 3) := by decide +kernel
theorem dX8_readAll_5 : decode cX8_readAll 5 = .ok (.aload_n 0, 1) := by decide +kernel
theorem dX8_readAll_6 : decode cX8_readAll 6 = .ok (.iconst 0, 1) := by decide +kernel
theorem dX8_readAll_7 : decode cX8_readAll 7 = .ok (.putfield 114, 3) := by decide +kernel
theorem dX8_readAll_10 : decode cX8_readAll 10 = .ok (.aload_n 0, 1) := by decide +kernel
theorem dX8_readAll_11 : decode cX8_readAll 11 = .ok (.iconst 0, 1) := by decide +kernel
theorem dX8_readAll_12 : decode cX8_readAll 12 = .ok (.putfield 174, 3) := by decide +kernel
theorem dX8_readAll_15 : decode cX8_readAll 15 = .ok (.aload_n 0, 1) := by decide +kernel
theorem dX8_readAll_16 : decode cX8_readAll 16 = .ok (.iconst 0, 1) := by decide +kernel
theorem dX8_readAll_17 : decode cX8_readAll 17 = .ok (.putfield 205, 3) := by decide +kernel
theorem dX8_readAll_20 : decode cX8_readAll 20 = .ok (.aload_n 0, 1) := by decide +kernel
theorem dX8_readAll_21 : decode cX8_readAll 21 = .ok (.invokevirtual 188, 3) := by decide +kernel
theorem dX8_readAll_24 : decode cX8_readAll 24 = .ok (.aload_n 0, 1) := by decide +kernel
theorem dX8_readAll_25 : decode cX8_readAll 25 = .ok (.invokevirtual 220, 3) := by decide +kernel
theorem dX8_readAll_28 : decode cX8_readAll 28 = .ok (.ifCond .ne 5, 3) := by decide +kernel
theorem dX8_readAll_31 : decode cX8_readAll 31 = .ok (.iconst 0, 1) := by decide +kernel
theorem dX8_readAll_32 : decode cX8_readAll 32 = .ok (.ireturn, 1) := by decide +kernel
theorem dX8_readAll_33 : decode cX8_readAll 33 = .ok (.aload_n 0, 1) := by decide +kernel
theorem dX8_readAll_34 : decode cX8_readAll 34 = .ok (.getfield 124, 3) := by decide +kernel
theorem dX8_readAll_37 : decode cX8_readAll 37 = .ok (.bipush 59, 2) := by decide +kernel
theorem dX8_readAll_39 : decode cX8_readAll 39 = .ok (.if_icmp .ne 16, 3) := by decide +kernel
theorem dX8_readAll_42 : decode cX8_readAll 42 = .ok (.aload_n 0, 1) := by decide +kernel
theorem dX8_readAll_43 : decode cX8_readAll 43 = .ok (.invokevirtual 188, 3) := by decide +kernel
theorem dX8_readAll_46 : decode cX8_readAll 46 = .ok (.aload_n 0, 1) := by decide +kernel
theorem dX8_readAll_47 : decode cX8_readAll 47 = .ok (.invokevirtual 223, 3) := by decide +kernel
theorem dX8_readAll_50 : decode cX8_readAll 50 = .ok (.ifCond .ne (-17), 3) := by decide +kernel
theorem dX8_readAll_53 : decode cX8_readAll 53 = .ok (.iconst 0, 1) := by decide +kernel
theorem dX8_readAll_54 : decode cX8_readAll 54 = .ok (.ireturn, 1) := by decide +kernel
theorem dX8_readAll_55 : decode cX8_readAll 55 = .ok (.aload_n 0, 1) := by decide +kernel
theorem dX8_readAll_56 : decode cX8_readAll 56 = .ok (.getfield 124, 3) := by decide +kernel
theorem dX8_readAll_59 : decode cX8_readAll 59 = .ok (.ifCond .eq 9, 3) := by decide +kernel
theorem dX8_readAll_62 : decode cX8_readAll 62 = .ok (.aload_n 0, 1) := by decide +kernel
theorem dX8_readAll_63 : decode cX8_readAll 63 = .ok (.iconst 1, 1) := by decide +kernel
theorem dX8_readAll_64 : decode cX8_readAll 64 = .ok (.invokevirtual 181, 3) := by decide +kernel
theorem dX8_readAll_67 : decode cX8_readAll 67 = .ok (.ireturn, 1) := by decide +kernel
theorem dX8_readAll_68 : decode cX8_readAll 68 = .ok (.aload_n 0, 1) := by decide +kernel
theorem dX8_readAll_69 : decode cX8_readAll 69 = .ok (.getfield 174, 3) := by decide +kernel
theorem dX8_readAll_72 : decode cX8_readAll 72 = .ok (.iconst 1, 1) := by decide +kernel
theorem dX8_readAll_73 : decode cX8_readAll 73 = .ok (.if_icmp .le 10, 3) := by decide +kernel
theorem dX8_readAll_76 : decode cX8_readAll 76 = .ok (.aload_n 0, 1) := by decide +kernel
theorem dX8_readAll_77 : decode cX8_readAll 77 = .ok (.invokevirtual 226, 3) := by decide +kernel
theorem dX8_readAll_80 : decode cX8_readAll 80 = .ok (.ifCond .ne 11, 3) := by decide +kernel
theorem dX8_readAll_83 : decode cX8_readAll 83 = .ok (.aload_n 0, 1) := by decide +kernel
theorem dX8_readAll_84 : decode cX8_readAll 84 = .ok (.iconst 5, 1) := by decide +kernel
theorem dX8_readAll_85 : decode cX8_readAll 85 = .ok (.invokevirtual 181, 3) := by decide +kernel
theorem dX8_readAll_88 : decode cX8_readAll 88 = .ok (.ifCond .eq 7, 3) := by decide +kernel
theorem dX8_readAll_91 : decode cX8_readAll 91 = .ok (.iconst 1, 1) := by decide +kernel
theorem dX8_readAll_92 : decode cX8_readAll 92 = .ok (.goto 4, 3) := by decide +kernel
theorem dX8_readAll_95 : decode cX8_readAll 95 = .ok (.iconst 0, 1) := by decide +kernel
theorem dX8_readAll_96 : decode cX8_readAll 96 = .ok (.ireturn, 1) := by decide +kernel
theorem dX8_stands_0 : decode cX8_stands 0 = .ok (.aload_n 0, 1) := by decide +kernel
theorem dX8_stands_1 : decode cX8_stands 1 = .ok (.aload_n 0, 1) := by decide +kernel
theorem dX8_stands_2 : decode cX8_stands 2 = .ok (.getfield 174, 3) := by decide +kernel
theorem dX8_stands_5 : decode cX8_stands 5 = .ok (.putfield 229, 3) := by decide +kernel
theorem dX8_stands_8 : decode cX8_stands 8 = .ok (.aload_n 0, 1) := by decide +kernel
theorem dX8_stands_9 : decode cX8_stands 9 = .ok (.aload_n 0, 1) := by decide +kernel
theorem dX8_stands_10 : decode cX8_stands 10 = .ok (.getfield 205, 3) := by decide +kernel
theorem dX8_stands_13 : decode cX8_stands 13 = .ok (.putfield 232, 3) := by decide +kernel
theorem dX8_stands_16 : decode cX8_stands 16 = .ok (.aload_n 0, 1) := by decide +kernel
theorem dX8_stands_17 : decode cX8_stands 17 = .ok (.iconst 0, 1) := by decide +kernel
theorem dX8_stands_18 : decode cX8_stands 18 = .ok (.putfield 235, 3) := by decide +kernel
theorem dX8_stands_21 : decode cX8_stands 21 = .ok (.aload_n 0, 1) := by decide +kernel
theorem dX8_stands_22 : decode cX8_stands 22 = .ok (.iconst 0, 1) := by decide +kernel
theorem dX8_stands_23 : decode cX8_stands 23 = .ok (.putfield 238, 3) := by decide +kernel
theorem dX8_stands_26 : decode cX8_stands 26 = .ok (.iconst 0, 1) := by decide +kernel
theorem dX8_stands_27 : decode cX8_stands 27 = .ok (.istore_n 1, 1) := by decide +kernel
theorem dX8_stands_28 : decode cX8_stands 28 = .ok (.iload_n 1, 1) := by decide +kernel
theorem dX8_stands_29 : decode cX8_stands 29 = .ok (.bipush 9, 2) := by decide +kernel
theorem dX8_stands_31 : decode cX8_stands 31 = .ok (.if_icmp .ge 46, 3) := by decide +kernel
theorem dX8_stands_34 : decode cX8_stands 34 = .ok (.aload_n 0, 1) := by decide +kernel
theorem dX8_stands_35 : decode cX8_stands 35 = .ok (.getfield 19, 3) := by decide +kernel
theorem dX8_stands_38 : decode cX8_stands 38 = .ok (.iload_n 1, 1) := by decide +kernel
theorem dX8_stands_39 : decode cX8_stands 39 = .ok (.aload_n 0, 1) := by decide +kernel
theorem dX8_stands_40 : decode cX8_stands 40 = .ok (.getfield 19, 3) := by decide +kernel
theorem dX8_stands_43 : decode cX8_stands 43 = .ok (.bipush 9, 2) := by decide +kernel
theorem dX8_stands_45 : decode cX8_stands 45 = .ok (.iload_n 1, 1) := by decide +kernel
theorem dX8_stands_46 : decode cX8_stands 46 = .ok (.iadd, 1) := by decide +kernel
theorem dX8_stands_47 : decode cX8_stands 47 = .ok (.iaload, 1) := by decide +kernel
theorem dX8_stands_48 : decode cX8_stands 48 = .ok (.iastore, 1) := by decide +kernel
theorem dX8_stands_49 : decode cX8_stands 49 = .ok (.aload_n 0, 1) := by decide +kernel
theorem dX8_stands_50 : decode cX8_stands 50 = .ok (.getfield 22, 3) := by decide +kernel
theorem dX8_stands_53 : decode cX8_stands 53 = .ok (.iload_n 1, 1) := by decide +kernel
theorem dX8_stands_54 : decode cX8_stands 54 = .ok (.aload_n 0, 1) := by decide +kernel
theorem dX8_stands_55 : decode cX8_stands 55 = .ok (.getfield 22, 3) := by decide +kernel
theorem dX8_stands_58 : decode cX8_stands 58 = .ok (.bipush 9, 2) := by decide +kernel
theorem dX8_stands_60 : decode cX8_stands 60 = .ok (.iload_n 1, 1) := by decide +kernel
theorem dX8_stands_61 : decode cX8_stands 61 = .ok (.iadd, 1) := by decide +kernel
theorem dX8_stands_62 : decode cX8_stands 62 = .ok (.iaload, 1) := by decide +kernel
theorem dX8_stands_63 : decode cX8_stands 63 = .ok (.iastore, 1) := by decide +kernel
theorem dX8_stands_64 : decode cX8_stands 64 = .ok (.aload_n 0, 1) := by decide +kernel
theorem dX8_stands_65 : decode cX8_stands 65 = .ok (.getfield 80, 3) := by decide +kernel
theorem dX8_stands_68 : decode cX8_stands 68 = .ok (.iload_n 1, 1) := by decide +kernel
theorem dX8_stands_69 : decode cX8_stands 69 = .ok (.iconst 0, 1) := by decide +kernel
theorem dX8_stands_70 : decode cX8_stands 70 = .ok (.bastore, 1) := by decide +kernel
theorem dX8_stands_71 : decode cX8_stands 71 = .ok (.iinc 1 1, 3) := by decide +kernel
theorem dX8_stands_74 : decode cX8_stands 74 = .ok (.goto (-46), 3) := by decide +kernel
theorem dX8_stands_77 : decode cX8_stands 77 = .ok (.iconst 0, 1) := by decide +kernel
theorem dX8_stands_78 : decode cX8_stands 78 = .ok (.istore_n 1, 1) := by decide +kernel
theorem dX8_stands_79 : decode cX8_stands 79 = .ok (.iload_n 1, 1) := by decide +kernel
theorem dX8_stands_80 : decode cX8_stands 80 = .ok (.bipush 54, 2) := by decide +kernel
theorem dX8_stands_82 : decode cX8_stands 82 = .ok (.if_icmp .ge 24, 3) := by decide +kernel
theorem dX8_stands_85 : decode cX8_stands 85 = .ok (.aload_n 0, 1) := by decide +kernel
theorem dX8_stands_86 : decode cX8_stands 86 = .ok (.getfield 25, 3) := by decide +kernel
theorem dX8_stands_89 : decode cX8_stands 89 = .ok (.iload_n 1, 1) := by decide +kernel
theorem dX8_stands_90 : decode cX8_stands 90 = .ok (.aload_n 0, 1) := by decide +kernel
theorem dX8_stands_91 : decode cX8_stands 91 = .ok (.getfield 25, 3) := by decide +kernel
theorem dX8_stands_94 : decode cX8_stands 94 = .ok (.bipush 54, 2) := by decide +kernel
theorem dX8_stands_96 : decode cX8_stands 96 = .ok (.iload_n 1, 1) := by decide +kernel
theorem dX8_stands_97 : decode cX8_stands 97 = .ok (.iadd, 1) := by decide +kernel
theorem dX8_stands_98 : decode cX8_stands 98 = .ok (.iaload, 1) := by decide +kernel
theorem dX8_stands_99 : decode cX8_stands 99 = .ok (.iastore, 1) := by decide +kernel
theorem dX8_stands_100 : decode cX8_stands 100 = .ok (.iinc 1 1, 3) := by decide +kernel
theorem dX8_stands_103 : decode cX8_stands 103 = .ok (.goto (-24), 3) := by decide +kernel
theorem dX8_stands_106 : decode cX8_stands 106 = .ok (.iconst 0, 1) := by decide +kernel
theorem dX8_stands_107 : decode cX8_stands 107 = .ok (.istore_n 1, 1) := by decide +kernel
theorem dX8_stands_108 : decode cX8_stands 108 = .ok (.iload_n 1, 1) := by decide +kernel
theorem dX8_stands_109 : decode cX8_stands 109 = .ok (.bipush 14, 2) := by decide +kernel
theorem dX8_stands_111 : decode cX8_stands 111 = .ok (.if_icmp .ge 84, 3) := by decide +kernel
theorem dX8_stands_114 : decode cX8_stands 114 = .ok (.aload_n 0, 1) := by decide +kernel
theorem dX8_stands_115 : decode cX8_stands 115 = .ok (.getfield 28, 3) := by decide +kernel
theorem dX8_stands_118 : decode cX8_stands 118 = .ok (.iload_n 1, 1) := by decide +kernel
theorem dX8_stands_119 : decode cX8_stands 119 = .ok (.aload_n 0, 1) := by decide +kernel
theorem dX8_stands_120 : decode cX8_stands 120 = .ok (.getfield 28, 3) := by decide +kernel
theorem dX8_stands_123 : decode cX8_stands 123 = .ok (.bipush 14, 2) := by decide +kernel
theorem dX8_stands_125 : decode cX8_stands 125 = .ok (.iload_n 1, 1) := by decide +kernel
theorem dX8_stands_126 : decode cX8_stands 126 = .ok (.iadd, 1) := by decide +kernel
theorem dX8_stands_127 : decode cX8_stands 127 = .ok (.iaload, 1) := by decide +kernel
theorem dX8_stands_128 : decode cX8_stands 128 = .ok (.iastore, 1) := by decide +kernel
theorem dX8_stands_129 : decode cX8_stands 129 = .ok (.aload_n 0, 1) := by decide +kernel
theorem dX8_stands_130 : decode cX8_stands 130 = .ok (.getfield 31, 3) := by decide +kernel
theorem dX8_stands_133 : decode cX8_stands 133 = .ok (.iload_n 1, 1) := by decide +kernel
theorem dX8_stands_134 : decode cX8_stands 134 = .ok (.aload_n 0, 1) := by decide +kernel
theorem dX8_stands_135 : decode cX8_stands 135 = .ok (.getfield 31, 3) := by decide +kernel
theorem dX8_stands_138 : decode cX8_stands 138 = .ok (.bipush 14, 2) := by decide +kernel
theorem dX8_stands_140 : decode cX8_stands 140 = .ok (.iload_n 1, 1) := by decide +kernel
theorem dX8_stands_141 : decode cX8_stands 141 = .ok (.iadd, 1) := by decide +kernel
theorem dX8_stands_142 : decode cX8_stands 142 = .ok (.iaload, 1) := by decide +kernel
theorem dX8_stands_143 : decode cX8_stands 143 = .ok (.iastore, 1) := by decide +kernel
theorem dX8_stands_144 : decode cX8_stands 144 = .ok (.aload_n 0, 1) := by decide +kernel
theorem dX8_stands_145 : decode cX8_stands 145 = .ok (.getfield 34, 3) := by decide +kernel
theorem dX8_stands_148 : decode cX8_stands 148 = .ok (.iload_n 1, 1) := by decide +kernel
theorem dX8_stands_149 : decode cX8_stands 149 = .ok (.aload_n 0, 1) := by decide +kernel
theorem dX8_stands_150 : decode cX8_stands 150 = .ok (.getfield 34, 3) := by decide +kernel
theorem dX8_stands_153 : decode cX8_stands 153 = .ok (.bipush 14, 2) := by decide +kernel
theorem dX8_stands_155 : decode cX8_stands 155 = .ok (.iload_n 1, 1) := by decide +kernel
theorem dX8_stands_156 : decode cX8_stands 156 = .ok (.iadd, 1) := by decide +kernel
theorem dX8_stands_157 : decode cX8_stands 157 = .ok (.iaload, 1) := by decide +kernel
theorem dX8_stands_158 : decode cX8_stands 158 = .ok (.iastore, 1) := by decide +kernel
theorem dX8_stands_159 : decode cX8_stands 159 = .ok (.aload_n 0, 1) := by decide +kernel
theorem dX8_stands_160 : decode cX8_stands 160 = .ok (.getfield 37, 3) := by decide +kernel
theorem dX8_stands_163 : decode cX8_stands 163 = .ok (.iload_n 1, 1) := by decide +kernel
theorem dX8_stands_164 : decode cX8_stands 164 = .ok (.aload_n 0, 1) := by decide +kernel
theorem dX8_stands_165 : decode cX8_stands 165 = .ok (.getfield 37, 3) := by decide +kernel
theorem dX8_stands_168 : decode cX8_stands 168 = .ok (.bipush 14, 2) := by decide +kernel
theorem dX8_stands_170 : decode cX8_stands 170 = .ok (.iload_n 1, 1) := by decide +kernel
theorem dX8_stands_171 : decode cX8_stands 171 = .ok (.iadd, 1) := by decide +kernel
theorem dX8_stands_172 : decode cX8_stands 172 = .ok (.iaload, 1) := by decide +kernel
theorem dX8_stands_173 : decode cX8_stands 173 = .ok (.iastore, 1) := by decide +kernel
theorem dX8_stands_174 : decode cX8_stands 174 = .ok (.aload_n 0, 1) := by decide +kernel
theorem dX8_stands_175 : decode cX8_stands 175 = .ok (.getfield 43, 3) := by decide +kernel
theorem dX8_stands_178 : decode cX8_stands 178 = .ok (.iload_n 1, 1) := by decide +kernel
theorem dX8_stands_179 : decode cX8_stands 179 = .ok (.aload_n 0, 1) := by decide +kernel
theorem dX8_stands_180 : decode cX8_stands 180 = .ok (.getfield 43, 3) := by decide +kernel
theorem dX8_stands_183 : decode cX8_stands 183 = .ok (.bipush 14, 2) := by decide +kernel
theorem dX8_stands_185 : decode cX8_stands 185 = .ok (.iload_n 1, 1) := by decide +kernel
theorem dX8_stands_186 : decode cX8_stands 186 = .ok (.iadd, 1) := by decide +kernel
theorem dX8_stands_187 : decode cX8_stands 187 = .ok (.iaload, 1) := by decide +kernel
theorem dX8_stands_188 : decode cX8_stands 188 = .ok (.iastore, 1) := by decide +kernel
theorem dX8_stands_189 : decode cX8_stands 189 = .ok (.iinc 1 1, 3) := by decide +kernel
theorem dX8_stands_192 : decode cX8_stands 192 = .ok (.goto (-84), 3) := by decide +kernel
theorem dX8_stands_195 : decode cX8_stands 195 = .ok (.iconst 0, 1) := by decide +kernel
theorem dX8_stands_196 : decode cX8_stands 196 = .ok (.istore_n 1, 1) := by decide +kernel
theorem dX8_stands_197 : decode cX8_stands 197 = .ok (.iload_n 1, 1) := by decide +kernel
theorem dX8_stands_198 : decode cX8_stands 198 = .ok (.bipush 84, 2) := by decide +kernel
theorem dX8_stands_200 : decode cX8_stands 200 = .ok (.if_icmp .ge 24, 3) := by decide +kernel
theorem dX8_stands_203 : decode cX8_stands 203 = .ok (.aload_n 0, 1) := by decide +kernel
theorem dX8_stands_204 : decode cX8_stands 204 = .ok (.getfield 40, 3) := by decide +kernel
theorem dX8_stands_207 : decode cX8_stands 207 = .ok (.iload_n 1, 1) := by decide +kernel
theorem dX8_stands_208 : decode cX8_stands 208 = .ok (.aload_n 0, 1) := by decide +kernel
theorem dX8_stands_209 : decode cX8_stands 209 = .ok (.getfield 40, 3) := by decide +kernel
theorem dX8_stands_212 : decode cX8_stands 212 = .ok (.bipush 84, 2) := by decide +kernel
theorem dX8_stands_214 : decode cX8_stands 214 = .ok (.iload_n 1, 1) := by decide +kernel
theorem dX8_stands_215 : decode cX8_stands 215 = .ok (.iadd, 1) := by decide +kernel
theorem dX8_stands_216 : decode cX8_stands 216 = .ok (.iaload, 1) := by decide +kernel
theorem dX8_stands_217 : decode cX8_stands 217 = .ok (.iastore, 1) := by decide +kernel
theorem dX8_stands_218 : decode cX8_stands 218 = .ok (.iinc 1 1, 3) := by decide +kernel
theorem dX8_stands_221 : decode cX8_stands 221 = .ok (.goto (-24), 3) := by decide +kernel
theorem dX8_stands_224 : decode cX8_stands 224 = .ok (.return_, 1) := by decide +kernel
theorem dX8_text_0 : decode cX8_text 0 = .ok (.aload_n 0, 1) := by decide +kernel
theorem dX8_text_1 : decode cX8_text 1 = .ok (.iconst 1, 1) := by decide +kernel
theorem dX8_text_2 : decode cX8_text 2 = .ok (.iload_n 1, 1) := by decide +kernel
theorem dX8_text_3 : decode cX8_text 3 = .ok (.i2l, 1) := by decide +kernel
theorem dX8_text_4 : decode cX8_text 4 = .ok (.lconst 0, 1) := by decide +kernel
theorem dX8_text_5 : decode cX8_text 5 = .ok (.aload_n 0, 1) := by decide +kernel
theorem dX8_text_6 : decode cX8_text 6 = .ok (.getfield 104, 3) := by decide +kernel
theorem dX8_text_9 : decode cX8_text 9 = .ok (.i2l, 1) := by decide +kernel
theorem dX8_text_10 : decode cX8_text 10 = .ok (.invokestatic 131, 3) := by decide +kernel
theorem dX8_text_13 : decode cX8_text 13 = .ok (.invokestatic 241, 3) := by decide +kernel
theorem dX8_text_16 : decode cX8_text 16 = .ok (.invokevirtual 245, 3) := by decide +kernel
theorem dX8_text_19 : decode cX8_text 19 = .ok (.ifCond .eq 5, 3) := by decide +kernel
theorem dX8_text_22 : decode cX8_text 22 = .ok (.iconst (-1), 1) := by decide +kernel
theorem dX8_text_23 : decode cX8_text 23 = .ok (.ireturn, 1) := by decide +kernel
theorem dX8_text_24 : decode cX8_text 24 = .ok (.aload_n 0, 1) := by decide +kernel
theorem dX8_text_25 : decode cX8_text 25 = .ok (.iconst 0, 1) := by decide +kernel
theorem dX8_text_26 : decode cX8_text 26 = .ok (.putfield 104, 3) := by decide +kernel
theorem dX8_text_29 : decode cX8_text 29 = .ok (.aload_n 0, 1) := by decide +kernel
theorem dX8_text_30 : decode cX8_text 30 = .ok (.iconst 0, 1) := by decide +kernel
theorem dX8_text_31 : decode cX8_text 31 = .ok (.putfield 248, 3) := by decide +kernel
theorem dX8_text_34 : decode cX8_text 34 = .ok (.aload_n 0, 1) := by decide +kernel
theorem dX8_text_35 : decode cX8_text 35 = .ok (.iload_n 1, 1) := by decide +kernel
theorem dX8_text_36 : decode cX8_text 36 = .ok (.invokevirtual 251, 3) := by decide +kernel
theorem dX8_text_39 : decode cX8_text 39 = .ok (.ifCond .ne 25, 3) := by decide +kernel
theorem dX8_text_42 : decode cX8_text 42 = .ok (.aload_n 0, 1) := by decide +kernel
theorem dX8_text_43 : decode cX8_text 43 = .ok (.aload_n 0, 1) := by decide +kernel
theorem dX8_text_44 : decode cX8_text 44 = .ok (.getfield 152, 3) := by decide +kernel
theorem dX8_text_47 : decode cX8_text 47 = .ok (.putfield 248, 3) := by decide +kernel
theorem dX8_text_50 : decode cX8_text 50 = .ok (.aload_n 0, 1) := by decide +kernel
theorem dX8_text_51 : decode cX8_text 51 = .ok (.aload_n 0, 1) := by decide +kernel
theorem dX8_text_52 : decode cX8_text 52 = .ok (.getfield 155, 3) := by decide +kernel
theorem dX8_text_55 : decode cX8_text 55 = .ok (.putfield 11, 3) := by decide +kernel
theorem dX8_text_58 : decode cX8_text 58 = .ok (.aload_n 0, 1) := by decide +kernel
theorem dX8_text_59 : decode cX8_text 59 = .ok (.iconst 4, 1) := by decide +kernel
theorem dX8_text_60 : decode cX8_text 60 = .ok (.invokevirtual 254, 3) := by decide +kernel
theorem dX8_text_63 : decode cX8_text 63 = .ok (.ireturn, 1) := by decide +kernel
theorem dX8_text_64 : decode cX8_text 64 = .ok (.aload_n 0, 1) := by decide +kernel
theorem dX8_text_65 : decode cX8_text 65 = .ok (.invokevirtual 257, 3) := by decide +kernel
theorem dX8_text_68 : decode cX8_text 68 = .ok (.aload_n 0, 1) := by decide +kernel
theorem dX8_text_69 : decode cX8_text 69 = .ok (.invokevirtual 260, 3) := by decide +kernel
theorem dX8_text_72 : decode cX8_text 72 = .ok (.aload_n 0, 1) := by decide +kernel
theorem dX8_text_73 : decode cX8_text 73 = .ok (.getfield 229, 3) := by decide +kernel
theorem dX8_text_76 : decode cX8_text 76 = .ok (.ireturn, 1) := by decide +kernel
theorem dX8_fault_0 : decode cX8_fault 0 = .ok (.aload_n 0, 1) := by decide +kernel
theorem dX8_fault_1 : decode cX8_fault 1 = .ok (.iconst 0, 1) := by decide +kernel
theorem dX8_fault_2 : decode cX8_fault 2 = .ok (.putfield 96, 3) := by decide +kernel
theorem dX8_fault_5 : decode cX8_fault 5 = .ok (.aload_n 0, 1) := by decide +kernel
theorem dX8_fault_6 : decode cX8_fault 6 = .ok (.getfield 248, 3) := by decide +kernel
theorem dX8_fault_9 : decode cX8_fault 9 = .ok (.ireturn, 1) := by decide +kernel
theorem dX8_where_0 : decode cX8_where 0 = .ok (.aload_n 0, 1) := by decide +kernel
theorem dX8_where_1 : decode cX8_where 1 = .ok (.iconst 0, 1) := by decide +kernel
theorem dX8_where_2 : decode cX8_where 2 = .ok (.putfield 96, 3) := by decide +kernel
theorem dX8_where_5 : decode cX8_where 5 = .ok (.aload_n 0, 1) := by decide +kernel
theorem dX8_where_6 : decode cX8_where 6 = .ok (.getfield 99, 3) := by decide +kernel
theorem dX8_where_9 : decode cX8_where 9 = .ok (.iconst 4, 1) := by decide +kernel
theorem dX8_where_10 : decode cX8_where 10 = .ok (.if_icmp .ne 10, 3) := by decide +kernel
theorem dX8_where_13 : decode cX8_where 13 = .ok (.aload_n 0, 1) := by decide +kernel
theorem dX8_where_14 : decode cX8_where 14 = .ok (.getfield 11, 3) := by decide +kernel
theorem dX8_where_17 : decode cX8_where 17 = .ok (.goto 4, 3) := by decide +kernel
theorem dX8_where_20 : decode cX8_where 20 = .ok (.iconst (-1), 1) := by decide +kernel
theorem dX8_where_21 : decode cX8_where 21 = .ok (.ireturn, 1) := by decide +kernel
theorem dX8_isOpen_0 : decode cX8_isOpen 0 = .ok (.aload_n 0, 1) := by decide +kernel
theorem dX8_isOpen_1 : decode cX8_isOpen 1 = .ok (.getfield 235, 3) := by decide +kernel
theorem dX8_isOpen_4 : decode cX8_isOpen 4 = .ok (.iload_n 1, 1) := by decide +kernel
theorem dX8_isOpen_5 : decode cX8_isOpen 5 = .ok (.ishr, 1) := by decide +kernel
theorem dX8_isOpen_6 : decode cX8_isOpen 6 = .ok (.iconst 1, 1) := by decide +kernel
theorem dX8_isOpen_7 : decode cX8_isOpen 7 = .ok (.iand, 1) := by decide +kernel
theorem dX8_isOpen_8 : decode cX8_isOpen 8 = .ok (.ifCond .ne 18, 3) := by decide +kernel
theorem dX8_isOpen_11 : decode cX8_isOpen 11 = .ok (.aload_n 0, 1) := by decide +kernel
theorem dX8_isOpen_12 : decode cX8_isOpen 12 = .ok (.getfield 263, 3) := by decide +kernel
theorem dX8_isOpen_15 : decode cX8_isOpen 15 = .ok (.iload_n 1, 1) := by decide +kernel
theorem dX8_isOpen_16 : decode cX8_isOpen 16 = .ok (.ishr, 1) := by decide +kernel
theorem dX8_isOpen_17 : decode cX8_isOpen 17 = .ok (.iconst 1, 1) := by decide +kernel
theorem dX8_isOpen_18 : decode cX8_isOpen 18 = .ok (.iand, 1) := by decide +kernel
theorem dX8_isOpen_19 : decode cX8_isOpen 19 = .ok (.ifCond .ne 7, 3) := by decide +kernel
theorem dX8_isOpen_22 : decode cX8_isOpen 22 = .ok (.iconst 1, 1) := by decide +kernel
theorem dX8_isOpen_23 : decode cX8_isOpen 23 = .ok (.goto 4, 3) := by decide +kernel
theorem dX8_isOpen_26 : decode cX8_isOpen 26 = .ok (.iconst 0, 1) := by decide +kernel
theorem dX8_isOpen_27 : decode cX8_isOpen 27 = .ok (.ireturn, 1) := by decide +kernel
theorem dX8_isMet_0 : decode cX8_isMet 0 = .ok (.aload_n 0, 1) := by decide +kernel
theorem dX8_isMet_1 : decode cX8_isMet 1 = .ok (.getfield 266, 3) := by decide +kernel
theorem dX8_isMet_4 : decode cX8_isMet 4 = .ok (.iload_n 1, 1) := by decide +kernel
theorem dX8_isMet_5 : decode cX8_isMet 5 = .ok (.ishr, 1) := by decide +kernel
theorem dX8_isMet_6 : decode cX8_isMet 6 = .ok (.iconst 1, 1) := by decide +kernel
theorem dX8_isMet_7 : decode cX8_isMet 7 = .ok (.iand, 1) := by decide +kernel
theorem dX8_isMet_8 : decode cX8_isMet 8 = .ok (.iconst 1, 1) := by decide +kernel
theorem dX8_isMet_9 : decode cX8_isMet 9 = .ok (.if_icmp .ne 7, 3) := by decide +kernel
theorem dX8_isMet_12 : decode cX8_isMet 12 = .ok (.iconst 1, 1) := by decide +kernel
theorem dX8_isMet_13 : decode cX8_isMet 13 = .ok (.goto 4, 3) := by decide +kernel
theorem dX8_isMet_16 : decode cX8_isMet 16 = .ok (.iconst 0, 1) := by decide +kernel
theorem dX8_isMet_17 : decode cX8_isMet 17 = .ok (.ireturn, 1) := by decide +kernel
theorem dX8_isLive_0 : decode cX8_isLive 0 = .ok (.aload_n 0, 1) := by decide +kernel
theorem dX8_isLive_1 : decode cX8_isLive 1 = .ok (.iload_n 1, 1) := by decide +kernel
theorem dX8_isLive_2 : decode cX8_isLive 2 = .ok (.invokevirtual 269, 3) := by decide +kernel
theorem dX8_isLive_5 : decode cX8_isLive 5 = .ok (.ifCond .eq 20, 3) := by decide +kernel
theorem dX8_isLive_8 : decode cX8_isLive 8 = .ok (.aload_n 0, 1) := by decide +kernel
theorem dX8_isLive_9 : decode cX8_isLive 9 = .ok (.aload_n 0, 1) := by decide +kernel
theorem dX8_isLive_10 : decode cX8_isLive 10 = .ok (.getfield 28, 3) := by decide +kernel
theorem dX8_isLive_13 : decode cX8_isLive 13 = .ok (.iload_n 1, 1) := by decide +kernel
theorem dX8_isLive_14 : decode cX8_isLive 14 = .ok (.iaload, 1) := by decide +kernel
theorem dX8_isLive_15 : decode cX8_isLive 15 = .ok (.invokevirtual 272, 3) := by decide +kernel
theorem dX8_isLive_18 : decode cX8_isLive 18 = .ok (.ifCond .eq 7, 3) := by decide +kernel
theorem dX8_isLive_21 : decode cX8_isLive 21 = .ok (.iconst 1, 1) := by decide +kernel
theorem dX8_isLive_22 : decode cX8_isLive 22 = .ok (.goto 4, 3) := by decide +kernel
theorem dX8_isLive_25 : decode cX8_isLive 25 = .ok (.iconst 0, 1) := by decide +kernel
theorem dX8_isLive_26 : decode cX8_isLive 26 = .ok (.ireturn, 1) := by decide +kernel
theorem dX8_isTree_0 : decode cX8_isTree 0 = .ok (.aload_n 0, 1) := by decide +kernel
theorem dX8_isTree_1 : decode cX8_isTree 1 = .ok (.iload_n 1, 1) := by decide +kernel
theorem dX8_isTree_2 : decode cX8_isTree 2 = .ok (.invokevirtual 275, 3) := by decide +kernel
theorem dX8_isTree_5 : decode cX8_isTree 5 = .ok (.ifCond .eq 37, 3) := by decide +kernel
theorem dX8_isTree_8 : decode cX8_isTree 8 = .ok (.aload_n 0, 1) := by decide +kernel
theorem dX8_isTree_9 : decode cX8_isTree 9 = .ok (.getfield 46, 3) := by decide +kernel
theorem dX8_isTree_12 : decode cX8_isTree 12 = .ok (.aload_n 0, 1) := by decide +kernel
theorem dX8_isTree_13 : decode cX8_isTree 13 = .ok (.getfield 28, 3) := by decide +kernel
theorem dX8_isTree_16 : decode cX8_isTree 16 = .ok (.iload_n 1, 1) := by decide +kernel
theorem dX8_isTree_17 : decode cX8_isTree 17 = .ok (.iaload, 1) := by decide +kernel
theorem dX8_isTree_18 : decode cX8_isTree 18 = .ok (.iaload, 1) := by decide +kernel
theorem dX8_isTree_19 : decode cX8_isTree 19 = .ok (.iload_n 1, 1) := by decide +kernel
theorem dX8_isTree_20 : decode cX8_isTree 20 = .ok (.if_icmp .eq 18, 3) := by decide +kernel
theorem dX8_isTree_23 : decode cX8_isTree 23 = .ok (.aload_n 0, 1) := by decide +kernel
theorem dX8_isTree_24 : decode cX8_isTree 24 = .ok (.getfield 46, 3) := by decide +kernel
theorem dX8_isTree_27 : decode cX8_isTree 27 = .ok (.aload_n 0, 1) := by decide +kernel
theorem dX8_isTree_28 : decode cX8_isTree 28 = .ok (.getfield 31, 3) := by decide +kernel
theorem dX8_isTree_31 : decode cX8_isTree 31 = .ok (.iload_n 1, 1) := by decide +kernel
theorem dX8_isTree_32 : decode cX8_isTree 32 = .ok (.iaload, 1) := by decide +kernel
theorem dX8_isTree_33 : decode cX8_isTree 33 = .ok (.iaload, 1) := by decide +kernel
theorem dX8_isTree_34 : decode cX8_isTree 34 = .ok (.iload_n 1, 1) := by decide +kernel
theorem dX8_isTree_35 : decode cX8_isTree 35 = .ok (.if_icmp .ne 7, 3) := by decide +kernel
theorem dX8_isTree_38 : decode cX8_isTree 38 = .ok (.iconst 1, 1) := by decide +kernel
theorem dX8_isTree_39 : decode cX8_isTree 39 = .ok (.goto 4, 3) := by decide +kernel
theorem dX8_isTree_42 : decode cX8_isTree 42 = .ok (.iconst 0, 1) := by decide +kernel
theorem dX8_isTree_43 : decode cX8_isTree 43 = .ok (.ireturn, 1) := by decide +kernel
theorem dX8_otherEnd_0 : decode cX8_otherEnd 0 = .ok (.aload_n 0, 1) := by decide +kernel
theorem dX8_otherEnd_1 : decode cX8_otherEnd 1 = .ok (.getfield 28, 3) := by decide +kernel
theorem dX8_otherEnd_4 : decode cX8_otherEnd 4 = .ok (.iload_n 1, 1) := by decide +kernel
theorem dX8_otherEnd_5 : decode cX8_otherEnd 5 = .ok (.iaload, 1) := by decide +kernel
theorem dX8_otherEnd_6 : decode cX8_otherEnd 6 = .ok (.iload_n 2, 1) := by decide +kernel
theorem dX8_otherEnd_7 : decode cX8_otherEnd 7 = .ok (.if_icmp .ne 12, 3) := by decide +kernel
theorem dX8_otherEnd_10 : decode cX8_otherEnd 10 = .ok (.aload_n 0, 1) := by decide +kernel
theorem dX8_otherEnd_11 : decode cX8_otherEnd 11 = .ok (.getfield 31, 3) := by decide +kernel
theorem dX8_otherEnd_14 : decode cX8_otherEnd 14 = .ok (.iload_n 1, 1) := by decide +kernel
theorem dX8_otherEnd_15 : decode cX8_otherEnd 15 = .ok (.iaload, 1) := by decide +kernel
theorem dX8_otherEnd_16 : decode cX8_otherEnd 16 = .ok (.goto 9, 3) := by decide +kernel
theorem dX8_otherEnd_19 : decode cX8_otherEnd 19 = .ok (.aload_n 0, 1) := by decide +kernel
theorem dX8_otherEnd_20 : decode cX8_otherEnd 20 = .ok (.getfield 28, 3) := by decide +kernel
theorem dX8_otherEnd_23 : decode cX8_otherEnd 23 = .ok (.iload_n 1, 1) := by decide +kernel
theorem dX8_otherEnd_24 : decode cX8_otherEnd 24 = .ok (.iaload, 1) := by decide +kernel
theorem dX8_otherEnd_25 : decode cX8_otherEnd 25 = .ok (.ireturn, 1) := by decide +kernel
theorem dX8_laysTree_0 : decode cX8_laysTree 0 = .ok (.iconst 0, 1) := by decide +kernel
theorem dX8_laysTree_1 : decode cX8_laysTree 1 = .ok (.istore_n 1, 1) := by decide +kernel
theorem dX8_laysTree_2 : decode cX8_laysTree 2 = .ok (.iload_n 1, 1) := by decide +kernel
theorem dX8_laysTree_3 : decode cX8_laysTree 3 = .ok (.bipush 9, 2) := by decide +kernel
theorem dX8_laysTree_5 : decode cX8_laysTree 5 = .ok (.if_icmp .ge 17, 3) := by decide +kernel
theorem dX8_laysTree_8 : decode cX8_laysTree 8 = .ok (.aload_n 0, 1) := by decide +kernel
theorem dX8_laysTree_9 : decode cX8_laysTree 9 = .ok (.getfield 46, 3) := by decide +kernel
theorem dX8_laysTree_12 : decode cX8_laysTree 12 = .ok (.iload_n 1, 1) := by decide +kernel
theorem dX8_laysTree_13 : decode cX8_laysTree 13 = .ok (.bipush (-2), 2) := by decide +kernel
theorem dX8_laysTree_15 : decode cX8_laysTree 15 = .ok (.iastore, 1) := by decide +kernel
theorem dX8_laysTree_16 : decode cX8_laysTree 16 = .ok (.iinc 1 1, 3) := by decide +kernel
theorem dX8_laysTree_19 : decode cX8_laysTree 19 = .ok (.goto (-17), 3) := by decide +kernel
theorem dX8_laysTree_22 : decode cX8_laysTree 22 = .ok (.aload_n 0, 1) := by decide +kernel
theorem dX8_laysTree_23 : decode cX8_laysTree 23 = .ok (.iconst 1, 1) := by decide +kernel
theorem dX8_laysTree_24 : decode cX8_laysTree 24 = .ok (.putfield 266, 3) := by decide +kernel
theorem dX8_laysTree_27 : decode cX8_laysTree 27 = .ok (.aload_n 0, 1) := by decide +kernel
theorem dX8_laysTree_28 : decode cX8_laysTree 28 = .ok (.getfield 49, 3) := by decide +kernel
theorem dX8_laysTree_31 : decode cX8_laysTree 31 = .ok (.iconst 0, 1) := by decide +kernel
theorem dX8_laysTree_32 : decode cX8_laysTree 32 = .ok (.iconst 0, 1) := by decide +kernel
theorem dX8_laysTree_33 : decode cX8_laysTree 33 = .ok (.iastore, 1) := by decide +kernel
theorem dX8_laysTree_34 : decode cX8_laysTree 34 = .ok (.aload_n 0, 1) := by decide +kernel
theorem dX8_laysTree_35 : decode cX8_laysTree 35 = .ok (.iconst 1, 1) := by decide +kernel
theorem dX8_laysTree_36 : decode cX8_laysTree 36 = .ok (.putfield 278, 3) := by decide +kernel
theorem dX8_laysTree_39 : decode cX8_laysTree 39 = .ok (.iconst 0, 1) := by decide +kernel
theorem dX8_laysTree_40 : decode cX8_laysTree 40 = .ok (.istore_n 1, 1) := by decide +kernel
theorem dX8_laysTree_41 : decode cX8_laysTree 41 = .ok (.iload_n 1, 1) := by decide +kernel
theorem dX8_laysTree_42 : decode cX8_laysTree 42 = .ok (.aload_n 0, 1) := by decide +kernel
theorem dX8_laysTree_43 : decode cX8_laysTree 43 = .ok (.getfield 278, 3) := by decide +kernel
theorem dX8_laysTree_46 : decode cX8_laysTree 46 = .ok (.if_icmp .ge 145, 3) := by decide +kernel
theorem dX8_laysTree_49 : decode cX8_laysTree 49 = .ok (.iconst 0, 1) := by decide +kernel
theorem dX8_laysTree_50 : decode cX8_laysTree 50 = .ok (.istore_n 2, 1) := by decide +kernel
theorem dX8_laysTree_51 : decode cX8_laysTree 51 = .ok (.iload_n 2, 1) := by decide +kernel
theorem dX8_laysTree_52 : decode cX8_laysTree 52 = .ok (.aload_n 0, 1) := by decide +kernel
theorem dX8_laysTree_53 : decode cX8_laysTree 53 = .ok (.getfield 232, 3) := by decide +kernel
theorem dX8_laysTree_56 : decode cX8_laysTree 56 = .ok (.if_icmp .ge 129, 3) := by decide +kernel
theorem dX8_laysTree_59 : decode cX8_laysTree 59 = .ok (.aload_n 0, 1) := by decide +kernel
theorem dX8_laysTree_60 : decode cX8_laysTree 60 = .ok (.getfield 28, 3) := by decide +kernel
theorem dX8_laysTree_63 : decode cX8_laysTree 63 = .ok (.iload_n 2, 1) := by decide +kernel
theorem dX8_laysTree_64 : decode cX8_laysTree 64 = .ok (.iaload, 1) := by decide +kernel
theorem dX8_laysTree_65 : decode cX8_laysTree 65 = .ok (.aload_n 0, 1) := by decide +kernel
theorem dX8_laysTree_66 : decode cX8_laysTree 66 = .ok (.getfield 49, 3) := by decide +kernel
theorem dX8_laysTree_69 : decode cX8_laysTree 69 = .ok (.iload_n 1, 1) := by decide +kernel
theorem dX8_laysTree_70 : decode cX8_laysTree 70 = .ok (.iaload, 1) := by decide +kernel
theorem dX8_laysTree_71 : decode cX8_laysTree 71 = .ok (.if_icmp .eq 18, 3) := by decide +kernel
theorem dX8_laysTree_74 : decode cX8_laysTree 74 = .ok (.aload_n 0, 1) := by decide +kernel
theorem dX8_laysTree_75 : decode cX8_laysTree 75 = .ok (.getfield 31, 3) := by decide +kernel
theorem dX8_laysTree_78 : decode cX8_laysTree 78 = .ok (.iload_n 2, 1) := by decide +kernel
theorem dX8_laysTree_79 : decode cX8_laysTree 79 = .ok (.iaload, 1) := by decide +kernel
