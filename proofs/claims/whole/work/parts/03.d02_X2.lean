theorem dX2_init_0 : decode cX2_init 0 = .ok (.aload_n 0, 1) := by decide +kernel
theorem dX2_init_1 : decode cX2_init 1 = .ok (.invokespecial 3, 3) := by decide +kernel
theorem dX2_init_4 : decode cX2_init 4 = .ok (.aload_n 0, 1) := by decide +kernel
theorem dX2_init_5 : decode cX2_init 5 = .ok (.bipush 9, 2) := by decide +kernel
theorem dX2_init_7 : decode cX2_init 7 = .ok (.newarray .long, 2) := by decide +kernel
theorem dX2_init_9 : decode cX2_init 9 = .ok (.putfield 9, 3) := by decide +kernel
theorem dX2_init_12 : decode cX2_init 12 = .ok (.aload_n 0, 1) := by decide +kernel
theorem dX2_init_13 : decode cX2_init 13 = .ok (.bipush 9, 2) := by decide +kernel
theorem dX2_init_15 : decode cX2_init 15 = .ok (.newarray .int, 2) := by decide +kernel
theorem dX2_init_17 : decode cX2_init 17 = .ok (.putfield 15, 3) := by decide +kernel
theorem dX2_init_20 : decode cX2_init 20 = .ok (.aload_n 0, 1) := by decide +kernel
theorem dX2_init_21 : decode cX2_init 21 = .ok (.bipush 9, 2) := by decide +kernel
theorem dX2_init_23 : decode cX2_init 23 = .ok (.newarray .int, 2) := by decide +kernel
theorem dX2_init_25 : decode cX2_init 25 = .ok (.putfield 19, 3) := by decide +kernel
theorem dX2_init_28 : decode cX2_init 28 = .ok (.aload_n 0, 1) := by decide +kernel
theorem dX2_init_29 : decode cX2_init 29 = .ok (.bipush 14, 2) := by decide +kernel
theorem dX2_init_31 : decode cX2_init 31 = .ok (.newarray .int, 2) := by decide +kernel
theorem dX2_init_33 : decode cX2_init 33 = .ok (.putfield 22, 3) := by decide +kernel
theorem dX2_init_36 : decode cX2_init 36 = .ok (.aload_n 0, 1) := by decide +kernel
theorem dX2_init_37 : decode cX2_init 37 = .ok (.bipush 14, 2) := by decide +kernel
theorem dX2_init_39 : decode cX2_init 39 = .ok (.newarray .int, 2) := by decide +kernel
theorem dX2_init_41 : decode cX2_init 41 = .ok (.putfield 25, 3) := by decide +kernel
theorem dX2_init_44 : decode cX2_init 44 = .ok (.aload_n 0, 1) := by decide +kernel
theorem dX2_init_45 : decode cX2_init 45 = .ok (.bipush 14, 2) := by decide +kernel
theorem dX2_init_47 : decode cX2_init 47 = .ok (.newarray .int, 2) := by decide +kernel
theorem dX2_init_49 : decode cX2_init 49 = .ok (.putfield 28, 3) := by decide +kernel
theorem dX2_init_52 : decode cX2_init 52 = .ok (.aload_n 0, 1) := by decide +kernel
theorem dX2_init_53 : decode cX2_init 53 = .ok (.bipush 14, 2) := by decide +kernel
theorem dX2_init_55 : decode cX2_init 55 = .ok (.newarray .int, 2) := by decide +kernel
theorem dX2_init_57 : decode cX2_init 57 = .ok (.putfield 31, 3) := by decide +kernel
theorem dX2_init_60 : decode cX2_init 60 = .ok (.aload_n 0, 1) := by decide +kernel
theorem dX2_init_61 : decode cX2_init 61 = .ok (.bipush 14, 2) := by decide +kernel
theorem dX2_init_63 : decode cX2_init 63 = .ok (.newarray .int, 2) := by decide +kernel
theorem dX2_init_65 : decode cX2_init 65 = .ok (.putfield 34, 3) := by decide +kernel
theorem dX2_init_68 : decode cX2_init 68 = .ok (.aload_n 0, 1) := by decide +kernel
theorem dX2_init_69 : decode cX2_init 69 = .ok (.bipush 84, 2) := by decide +kernel
theorem dX2_init_71 : decode cX2_init 71 = .ok (.newarray .int, 2) := by decide +kernel
theorem dX2_init_73 : decode cX2_init 73 = .ok (.putfield 37, 3) := by decide +kernel
theorem dX2_init_76 : decode cX2_init 76 = .ok (.return_, 1) := by decide +kernel
theorem dX2_copyFrom_0 : decode cX2_copyFrom 0 = .ok (.aload_n 0, 1) := by decide +kernel
theorem dX2_copyFrom_1 : decode cX2_copyFrom 1 = .ok (.aload_n 1, 1) := by decide +kernel
theorem dX2_copyFrom_2 : decode cX2_copyFrom 2 = .ok (.getfield 40, 3) := by decide +kernel
theorem dX2_copyFrom_5 : decode cX2_copyFrom 5 = .ok (.putfield 40, 3) := by decide +kernel
theorem dX2_copyFrom_8 : decode cX2_copyFrom 8 = .ok (.aload_n 0, 1) := by decide +kernel
theorem dX2_copyFrom_9 : decode cX2_copyFrom 9 = .ok (.aload_n 1, 1) := by decide +kernel
theorem dX2_copyFrom_10 : decode cX2_copyFrom 10 = .ok (.getfield 44, 3) := by decide +kernel
theorem dX2_copyFrom_13 : decode cX2_copyFrom 13 = .ok (.putfield 44, 3) := by decide +kernel
theorem dX2_copyFrom_16 : decode cX2_copyFrom 16 = .ok (.aload_n 0, 1) := by decide +kernel
theorem dX2_copyFrom_17 : decode cX2_copyFrom 17 = .ok (.aload_n 1, 1) := by decide +kernel
theorem dX2_copyFrom_18 : decode cX2_copyFrom 18 = .ok (.getfield 47, 3) := by decide +kernel
theorem dX2_copyFrom_21 : decode cX2_copyFrom 21 = .ok (.putfield 47, 3) := by decide +kernel
theorem dX2_copyFrom_24 : decode cX2_copyFrom 24 = .ok (.aload_n 0, 1) := by decide +kernel
theorem dX2_copyFrom_25 : decode cX2_copyFrom 25 = .ok (.aload_n 1, 1) := by decide +kernel
theorem dX2_copyFrom_26 : decode cX2_copyFrom 26 = .ok (.getfield 50, 3) := by decide +kernel
theorem dX2_copyFrom_29 : decode cX2_copyFrom 29 = .ok (.putfield 50, 3) := by decide +kernel
theorem dX2_copyFrom_32 : decode cX2_copyFrom 32 = .ok (.aload_n 1, 1) := by decide +kernel
theorem dX2_copyFrom_33 : decode cX2_copyFrom 33 = .ok (.getfield 9, 3) := by decide +kernel
theorem dX2_copyFrom_36 : decode cX2_copyFrom 36 = .ok (.iconst 0, 1) := by decide +kernel
theorem dX2_copyFrom_37 : decode cX2_copyFrom 37 = .ok (.aload_n 0, 1) := by decide +kernel
theorem dX2_copyFrom_38 : decode cX2_copyFrom 38 = .ok (.getfield 9, 3) := by decide +kernel
theorem dX2_copyFrom_41 : decode cX2_copyFrom 41 = .ok (.iconst 0, 1) := by decide +kernel
theorem dX2_copyFrom_42 : decode cX2_copyFrom 42 = .ok (.bipush 9, 2) := by decide +kernel
theorem dX2_copyFrom_44 : decode cX2_copyFrom 44 = .ok (.invokestatic 53, 3) := by decide +kernel
theorem dX2_copyFrom_47 : decode cX2_copyFrom 47 = .ok (.aload_n 1, 1) := by decide +kernel
theorem dX2_copyFrom_48 : decode cX2_copyFrom 48 = .ok (.getfield 15, 3) := by decide +kernel
theorem dX2_copyFrom_51 : decode cX2_copyFrom 51 = .ok (.iconst 0, 1) := by decide +kernel
theorem dX2_copyFrom_52 : decode cX2_copyFrom 52 = .ok (.aload_n 0, 1) := by decide +kernel
theorem dX2_copyFrom_53 : decode cX2_copyFrom 53 = .ok (.getfield 15, 3) := by decide +kernel
theorem dX2_copyFrom_56 : decode cX2_copyFrom 56 = .ok (.iconst 0, 1) := by decide +kernel
theorem dX2_copyFrom_57 : decode cX2_copyFrom 57 = .ok (.bipush 9, 2) := by decide +kernel
theorem dX2_copyFrom_59 : decode cX2_copyFrom 59 = .ok (.invokestatic 53, 3) := by decide +kernel
theorem dX2_copyFrom_62 : decode cX2_copyFrom 62 = .ok (.aload_n 1, 1) := by decide +kernel
theorem dX2_copyFrom_63 : decode cX2_copyFrom 63 = .ok (.getfield 19, 3) := by decide +kernel
theorem dX2_copyFrom_66 : decode cX2_copyFrom 66 = .ok (.iconst 0, 1) := by decide +kernel
theorem dX2_copyFrom_67 : decode cX2_copyFrom 67 = .ok (.aload_n 0, 1) := by decide +kernel
theorem dX2_copyFrom_68 : decode cX2_copyFrom 68 = .ok (.getfield 19, 3) := by decide +kernel
theorem dX2_copyFrom_71 : decode cX2_copyFrom 71 = .ok (.iconst 0, 1) := by decide +kernel
theorem dX2_copyFrom_72 : decode cX2_copyFrom 72 = .ok (.bipush 9, 2) := by decide +kernel
theorem dX2_copyFrom_74 : decode cX2_copyFrom 74 = .ok (.invokestatic 53, 3) := by decide +kernel
theorem dX2_copyFrom_77 : decode cX2_copyFrom 77 = .ok (.aload_n 1, 1) := by decide +kernel
theorem dX2_copyFrom_78 : decode cX2_copyFrom 78 = .ok (.getfield 22, 3) := by decide +kernel
theorem dX2_copyFrom_81 : decode cX2_copyFrom 81 = .ok (.iconst 0, 1) := by decide +kernel
theorem dX2_copyFrom_82 : decode cX2_copyFrom 82 = .ok (.aload_n 0, 1) := by decide +kernel
theorem dX2_copyFrom_83 : decode cX2_copyFrom 83 = .ok (.getfield 22, 3) := by decide +kernel
theorem dX2_copyFrom_86 : decode cX2_copyFrom 86 = .ok (.iconst 0, 1) := by decide +kernel
theorem dX2_copyFrom_87 : decode cX2_copyFrom 87 = .ok (.bipush 14, 2) := by decide +kernel
theorem dX2_copyFrom_89 : decode cX2_copyFrom 89 = .ok (.invokestatic 53, 3) := by decide +kernel
theorem dX2_copyFrom_92 : decode cX2_copyFrom 92 = .ok (.aload_n 1, 1) := by decide +kernel
theorem dX2_copyFrom_93 : decode cX2_copyFrom 93 = .ok (.getfield 25, 3) := by decide +kernel
theorem dX2_copyFrom_96 : decode cX2_copyFrom 96 = .ok (.iconst 0, 1) := by decide +kernel
theorem dX2_copyFrom_97 : decode cX2_copyFrom 97 = .ok (.aload_n 0, 1) := by decide +kernel
theorem dX2_copyFrom_98 : decode cX2_copyFrom 98 = .ok (.getfield 25, 3) := by decide +kernel
theorem dX2_copyFrom_101 : decode cX2_copyFrom 101 = .ok (.iconst 0, 1) := by decide +kernel
theorem dX2_copyFrom_102 : decode cX2_copyFrom 102 = .ok (.bipush 14, 2) := by decide +kernel
theorem dX2_copyFrom_104 : decode cX2_copyFrom 104 = .ok (.invokestatic 53, 3) := by decide +kernel
theorem dX2_copyFrom_107 : decode cX2_copyFrom 107 = .ok (.aload_n 1, 1) := by decide +kernel
theorem dX2_copyFrom_108 : decode cX2_copyFrom 108 = .ok (.getfield 28, 3) := by decide +kernel
theorem dX2_copyFrom_111 : decode cX2_copyFrom 111 = .ok (.iconst 0, 1) := by decide +kernel
theorem dX2_copyFrom_112 : decode cX2_copyFrom 112 = .ok (.aload_n 0, 1) := by decide +kernel
theorem dX2_copyFrom_113 : decode cX2_copyFrom 113 = .ok (.getfield 28, 3) := by decide +kernel
theorem dX2_copyFrom_116 : decode cX2_copyFrom 116 = .ok (.iconst 0, 1) := by decide +kernel
theorem dX2_copyFrom_117 : decode cX2_copyFrom 117 = .ok (.bipush 14, 2) := by decide +kernel
theorem dX2_copyFrom_119 : decode cX2_copyFrom 119 = .ok (.invokestatic 53, 3) := by decide +kernel
theorem dX2_copyFrom_122 : decode cX2_copyFrom 122 = .ok (.aload_n 1, 1) := by decide +kernel
theorem dX2_copyFrom_123 : decode cX2_copyFrom 123 = .ok (.getfield 31, 3) := by decide +kernel
theorem dX2_copyFrom_126 : decode cX2_copyFrom 126 = .ok (.iconst 0, 1) := by decide +kernel
theorem dX2_copyFrom_127 : decode cX2_copyFrom 127 = .ok (.aload_n 0, 1) := by decide +kernel
theorem dX2_copyFrom_128 : decode cX2_copyFrom 128 = .ok (.getfield 31, 3) := by decide +kernel
theorem dX2_copyFrom_131 : decode cX2_copyFrom 131 = .ok (.iconst 0, 1) := by decide +kernel
theorem dX2_copyFrom_132 : decode cX2_copyFrom 132 = .ok (.bipush 14, 2) := by decide +kernel
theorem dX2_copyFrom_134 : decode cX2_copyFrom 134 = .ok (.invokestatic 53, 3) := by decide +kernel
theorem dX2_copyFrom_137 : decode cX2_copyFrom 137 = .ok (.aload_n 1, 1) := by decide +kernel
theorem dX2_copyFrom_138 : decode cX2_copyFrom 138 = .ok (.getfield 34, 3) := by decide +kernel
theorem dX2_copyFrom_141 : decode cX2_copyFrom 141 = .ok (.iconst 0, 1) := by decide +kernel
theorem dX2_copyFrom_142 : decode cX2_copyFrom 142 = .ok (.aload_n 0, 1) := by decide +kernel
theorem dX2_copyFrom_143 : decode cX2_copyFrom 143 = .ok (.getfield 34, 3) := by decide +kernel
theorem dX2_copyFrom_146 : decode cX2_copyFrom 146 = .ok (.iconst 0, 1) := by decide +kernel
theorem dX2_copyFrom_147 : decode cX2_copyFrom 147 = .ok (.bipush 14, 2) := by decide +kernel
theorem dX2_copyFrom_149 : decode cX2_copyFrom 149 = .ok (.invokestatic 53, 3) := by decide +kernel
theorem dX2_copyFrom_152 : decode cX2_copyFrom 152 = .ok (.aload_n 1, 1) := by decide +kernel
theorem dX2_copyFrom_153 : decode cX2_copyFrom 153 = .ok (.getfield 37, 3) := by decide +kernel
theorem dX2_copyFrom_156 : decode cX2_copyFrom 156 = .ok (.iconst 0, 1) := by decide +kernel
theorem dX2_copyFrom_157 : decode cX2_copyFrom 157 = .ok (.aload_n 0, 1) := by decide +kernel
theorem dX2_copyFrom_158 : decode cX2_copyFrom 158 = .ok (.getfield 37, 3) := by decide +kernel
theorem dX2_copyFrom_161 : decode cX2_copyFrom 161 = .ok (.iconst 0, 1) := by decide +kernel
theorem dX2_copyFrom_162 : decode cX2_copyFrom 162 = .ok (.bipush 84, 2) := by decide +kernel
theorem dX2_copyFrom_164 : decode cX2_copyFrom 164 = .ok (.invokestatic 53, 3) := by decide +kernel
theorem dX2_copyFrom_167 : decode cX2_copyFrom 167 = .ok (.return_, 1) := by decide +kernel
theorem dX2_clear_0 : decode cX2_clear 0 = .ok (.aload_n 0, 1) := by decide +kernel
theorem dX2_clear_1 : decode cX2_clear 1 = .ok (.iconst 0, 1) := by decide +kernel
theorem dX2_clear_2 : decode cX2_clear 2 = .ok (.putfield 40, 3) := by decide +kernel
theorem dX2_clear_5 : decode cX2_clear 5 = .ok (.aload_n 0, 1) := by decide +kernel
theorem dX2_clear_6 : decode cX2_clear 6 = .ok (.iconst 0, 1) := by decide +kernel
theorem dX2_clear_7 : decode cX2_clear 7 = .ok (.putfield 44, 3) := by decide +kernel
theorem dX2_clear_10 : decode cX2_clear 10 = .ok (.aload_n 0, 1) := by decide +kernel
theorem dX2_clear_11 : decode cX2_clear 11 = .ok (.iconst 0, 1) := by decide +kernel
theorem dX2_clear_12 : decode cX2_clear 12 = .ok (.putfield 47, 3) := by decide +kernel
theorem dX2_clear_15 : decode cX2_clear 15 = .ok (.aload_n 0, 1) := by decide +kernel
theorem dX2_clear_16 : decode cX2_clear 16 = .ok (.iconst 0, 1) := by decide +kernel
theorem dX2_clear_17 : decode cX2_clear 17 = .ok (.putfield 50, 3) := by decide +kernel
theorem dX2_clear_20 : decode cX2_clear 20 = .ok (.return_, 1) := by decide +kernel
theorem dX2_hasJoint_0 : decode cX2_hasJoint 0 = .ok (.iload_n 1, 1) := by decide +kernel
theorem dX2_hasJoint_1 : decode cX2_hasJoint 1 = .ok (.ifCond .lt 15, 3) := by decide +kernel
theorem dX2_hasJoint_4 : decode cX2_hasJoint 4 = .ok (.iload_n 1, 1) := by decide +kernel
theorem dX2_hasJoint_5 : decode cX2_hasJoint 5 = .ok (.aload_n 0, 1) := by decide +kernel
theorem dX2_hasJoint_6 : decode cX2_hasJoint 6 = .ok (.getfield 40, 3) := by decide +kernel
theorem dX2_hasJoint_9 : decode cX2_hasJoint 9 = .ok (.if_icmp .ge 7, 3) := by decide +kernel
theorem dX2_hasJoint_12 : decode cX2_hasJoint 12 = .ok (.iconst 1, 1) := by decide +kernel
theorem dX2_hasJoint_13 : decode cX2_hasJoint 13 = .ok (.goto 4, 3) := by decide +kernel
theorem dX2_hasJoint_16 : decode cX2_hasJoint 16 = .ok (.iconst 0, 1) := by decide +kernel
theorem dX2_hasJoint_17 : decode cX2_hasJoint 17 = .ok (.ireturn, 1) := by decide +kernel
theorem dX2_hasEdge_0 : decode cX2_hasEdge 0 = .ok (.iload_n 1, 1) := by decide +kernel
theorem dX2_hasEdge_1 : decode cX2_hasEdge 1 = .ok (.ifCond .lt 15, 3) := by decide +kernel
theorem dX2_hasEdge_4 : decode cX2_hasEdge 4 = .ok (.iload_n 1, 1) := by decide +kernel
theorem dX2_hasEdge_5 : decode cX2_hasEdge 5 = .ok (.aload_n 0, 1) := by decide +kernel
theorem dX2_hasEdge_6 : decode cX2_hasEdge 6 = .ok (.getfield 44, 3) := by decide +kernel
theorem dX2_hasEdge_9 : decode cX2_hasEdge 9 = .ok (.if_icmp .ge 7, 3) := by decide +kernel
theorem dX2_hasEdge_12 : decode cX2_hasEdge 12 = .ok (.iconst 1, 1) := by decide +kernel
theorem dX2_hasEdge_13 : decode cX2_hasEdge 13 = .ok (.goto 4, 3) := by decide +kernel
theorem dX2_hasEdge_16 : decode cX2_hasEdge 16 = .ok (.iconst 0, 1) := by decide +kernel
theorem dX2_hasEdge_17 : decode cX2_hasEdge 17 = .ok (.ireturn, 1) := by decide +kernel
theorem dX2_jointCalled_0 : decode cX2_jointCalled 0 = .ok (.iconst 0, 1) := by decide +kernel
theorem dX2_jointCalled_1 : decode cX2_jointCalled 1 = .ok (.istore_n 3, 1) := by decide +kernel
theorem dX2_jointCalled_2 : decode cX2_jointCalled 2 = .ok (.iload_n 3, 1) := by decide +kernel
theorem dX2_jointCalled_3 : decode cX2_jointCalled 3 = .ok (.aload_n 0, 1) := by decide +kernel
theorem dX2_jointCalled_4 : decode cX2_jointCalled 4 = .ok (.getfield 40, 3) := by decide +kernel
theorem dX2_jointCalled_7 : decode cX2_jointCalled 7 = .ok (.if_icmp .ge 22, 3) := by decide +kernel
theorem dX2_jointCalled_10 : decode cX2_jointCalled 10 = .ok (.aload_n 0, 1) := by decide +kernel
theorem dX2_jointCalled_11 : decode cX2_jointCalled 11 = .ok (.getfield 9, 3) := by decide +kernel
theorem dX2_jointCalled_14 : decode cX2_jointCalled 14 = .ok (.iload_n 3, 1) := by decide +kernel
theorem dX2_jointCalled_15 : decode cX2_jointCalled 15 = .ok (.laload, 1) := by decide +kernel
theorem dX2_jointCalled_16 : decode cX2_jointCalled 16 = .ok (.lload_n 1, 1) := by decide +kernel
theorem dX2_jointCalled_17 : decode cX2_jointCalled 17 = .ok (.lcmp, 1) := by decide +kernel
theorem dX2_jointCalled_18 : decode cX2_jointCalled 18 = .ok (.ifCond .ne 5, 3) := by decide +kernel
theorem dX2_jointCalled_21 : decode cX2_jointCalled 21 = .ok (.iload_n 3, 1) := by decide +kernel
theorem dX2_jointCalled_22 : decode cX2_jointCalled 22 = .ok (.ireturn, 1) := by decide +kernel
theorem dX2_jointCalled_23 : decode cX2_jointCalled 23 = .ok (.iinc 3 1, 3) := by decide +kernel
theorem dX2_jointCalled_26 : decode cX2_jointCalled 26 = .ok (.goto (-24), 3) := by decide +kernel
theorem dX2_jointCalled_29 : decode cX2_jointCalled 29 = .ok (.iconst (-1), 1) := by decide +kernel
theorem dX2_jointCalled_30 : decode cX2_jointCalled 30 = .ok (.ireturn, 1) := by decide +kernel
theorem dX2_addJoint_0 : decode cX2_addJoint 0 = .ok (.aload_n 0, 1) := by decide +kernel
theorem dX2_addJoint_1 : decode cX2_addJoint 1 = .ok (.getfield 40, 3) := by decide +kernel
theorem dX2_addJoint_4 : decode cX2_addJoint 4 = .ok (.bipush 9, 2) := by decide +kernel
theorem dX2_addJoint_6 : decode cX2_addJoint 6 = .ok (.if_icmp .ge 44, 3) := by decide +kernel
theorem dX2_addJoint_9 : decode cX2_addJoint 9 = .ok (.aload_n 0, 1) := by decide +kernel
theorem dX2_addJoint_10 : decode cX2_addJoint 10 = .ok (.getfield 9, 3) := by decide +kernel
theorem dX2_addJoint_13 : decode cX2_addJoint 13 = .ok (.aload_n 0, 1) := by decide +kernel
theorem dX2_addJoint_14 : decode cX2_addJoint 14 = .ok (.getfield 40, 3) := by decide +kernel
theorem dX2_addJoint_17 : decode cX2_addJoint 17 = .ok (.lload_n 1, 1) := by decide +kernel
theorem dX2_addJoint_18 : decode cX2_addJoint 18 = .ok (.lastore, 1) := by decide +kernel
theorem dX2_addJoint_19 : decode cX2_addJoint 19 = .ok (.aload_n 0, 1) := by decide +kernel
theorem dX2_addJoint_20 : decode cX2_addJoint 20 = .ok (.getfield 15, 3) := by decide +kernel
theorem dX2_addJoint_23 : decode cX2_addJoint 23 = .ok (.aload_n 0, 1) := by decide +kernel
theorem dX2_addJoint_24 : decode cX2_addJoint 24 = .ok (.getfield 40, 3) := by decide +kernel
theorem dX2_addJoint_27 : decode cX2_addJoint 27 = .ok (.iload_n 3, 1) := by decide +kernel
theorem dX2_addJoint_28 : decode cX2_addJoint 28 = .ok (.iastore, 1) := by decide +kernel
theorem dX2_addJoint_29 : decode cX2_addJoint 29 = .ok (.aload_n 0, 1) := by decide +kernel
theorem dX2_addJoint_30 : decode cX2_addJoint 30 = .ok (.getfield 19, 3) := by decide +kernel
theorem dX2_addJoint_33 : decode cX2_addJoint 33 = .ok (.aload_n 0, 1) := by decide +kernel
theorem dX2_addJoint_34 : decode cX2_addJoint 34 = .ok (.getfield 40, 3) := by decide +kernel
theorem dX2_addJoint_37 : decode cX2_addJoint 37 = .ok (.iload 4, 2) := by decide +kernel
theorem dX2_addJoint_39 : decode cX2_addJoint 39 = .ok (.iastore, 1) := by decide +kernel
theorem dX2_addJoint_40 : decode cX2_addJoint 40 = .ok (.aload_n 0, 1) := by decide +kernel
theorem dX2_addJoint_41 : decode cX2_addJoint 41 = .ok (.dup, 1) := by decide +kernel
theorem dX2_addJoint_42 : decode cX2_addJoint 42 = .ok (.getfield 40, 3) := by decide +kernel
theorem dX2_addJoint_45 : decode cX2_addJoint 45 = .ok (.iconst 1, 1) := by decide +kernel
theorem dX2_addJoint_46 : decode cX2_addJoint 46 = .ok (.iadd, 1) := by decide +kernel
theorem dX2_addJoint_47 : decode cX2_addJoint 47 = .ok (.putfield 40, 3) := by decide +kernel
theorem dX2_addJoint_50 : decode cX2_addJoint 50 = .ok (.return_, 1) := by decide +kernel
theorem dX2_addEdge_0 : decode cX2_addEdge 0 = .ok (.aload_n 0, 1) := by decide +kernel
theorem dX2_addEdge_1 : decode cX2_addEdge 1 = .ok (.getfield 44, 3) := by decide +kernel
theorem dX2_addEdge_4 : decode cX2_addEdge 4 = .ok (.bipush 14, 2) := by decide +kernel
theorem dX2_addEdge_6 : decode cX2_addEdge 6 = .ok (.if_icmp .ge 64, 3) := by decide +kernel
theorem dX2_addEdge_9 : decode cX2_addEdge 9 = .ok (.aload_n 0, 1) := by decide +kernel
theorem dX2_addEdge_10 : decode cX2_addEdge 10 = .ok (.getfield 28, 3) := by decide +kernel
theorem dX2_addEdge_13 : decode cX2_addEdge 13 = .ok (.aload_n 0, 1) := by decide +kernel
theorem dX2_addEdge_14 : decode cX2_addEdge 14 = .ok (.getfield 44, 3) := by decide +kernel
theorem dX2_addEdge_17 : decode cX2_addEdge 17 = .ok (.iload_n 1, 1) := by decide +kernel
theorem dX2_addEdge_18 : decode cX2_addEdge 18 = .ok (.iastore, 1) := by decide +kernel
theorem dX2_addEdge_19 : decode cX2_addEdge 19 = .ok (.aload_n 0, 1) := by decide +kernel
theorem dX2_addEdge_20 : decode cX2_addEdge 20 = .ok (.getfield 22, 3) := by decide +kernel
theorem dX2_addEdge_23 : decode cX2_addEdge 23 = .ok (.aload_n 0, 1) := by decide +kernel
theorem dX2_addEdge_24 : decode cX2_addEdge 24 = .ok (.getfield 44, 3) := by decide +kernel
theorem dX2_addEdge_27 : decode cX2_addEdge 27 = .ok (.iload_n 2, 1) := by decide +kernel
theorem dX2_addEdge_28 : decode cX2_addEdge 28 = .ok (.iastore, 1) := by decide +kernel
theorem dX2_addEdge_29 : decode cX2_addEdge 29 = .ok (.aload_n 0, 1) := by decide +kernel
theorem dX2_addEdge_30 : decode cX2_addEdge 30 = .ok (.getfield 25, 3) := by decide +kernel
theorem dX2_addEdge_33 : decode cX2_addEdge 33 = .ok (.aload_n 0, 1) := by decide +kernel
theorem dX2_addEdge_34 : decode cX2_addEdge 34 = .ok (.getfield 44, 3) := by decide +kernel
theorem dX2_addEdge_37 : decode cX2_addEdge 37 = .ok (.iload_n 3, 1) := by decide +kernel
theorem dX2_addEdge_38 : decode cX2_addEdge 38 = .ok (.iastore, 1) := by decide +kernel
theorem dX2_addEdge_39 : decode cX2_addEdge 39 = .ok (.aload_n 0, 1) := by decide +kernel
theorem dX2_addEdge_40 : decode cX2_addEdge 40 = .ok (.getfield 31, 3) := by decide +kernel
theorem dX2_addEdge_43 : decode cX2_addEdge 43 = .ok (.aload_n 0, 1) := by decide +kernel
theorem dX2_addEdge_44 : decode cX2_addEdge 44 = .ok (.getfield 44, 3) := by decide +kernel
theorem dX2_addEdge_47 : decode cX2_addEdge 47 = .ok (.iload 4, 2) := by decide +kernel
theorem dX2_addEdge_49 : decode cX2_addEdge 49 = .ok (.iastore, 1) := by decide +kernel
theorem dX2_addEdge_50 : decode cX2_addEdge 50 = .ok (.aload_n 0, 1) := by decide +kernel
theorem dX2_addEdge_51 : decode cX2_addEdge 51 = .ok (.getfield 34, 3) := by decide +kernel
theorem dX2_addEdge_54 : decode cX2_addEdge 54 = .ok (.aload_n 0, 1) := by decide +kernel
theorem dX2_addEdge_55 : decode cX2_addEdge 55 = .ok (.getfield 44, 3) := by decide +kernel
theorem dX2_addEdge_58 : decode cX2_addEdge 58 = .ok (.iconst 0, 1) := by decide +kernel
theorem dX2_addEdge_59 : decode cX2_addEdge 59 = .ok (.iastore, 1) := by decide +kernel
theorem dX2_addEdge_60 : decode cX2_addEdge 60 = .ok (.aload_n 0, 1) := by decide +kernel
theorem dX2_addEdge_61 : decode cX2_addEdge 61 = .ok (.dup, 1) := by decide +kernel
theorem dX2_addEdge_62 : decode cX2_addEdge 62 = .ok (.getfield 44, 3) := by decide +kernel
theorem dX2_addEdge_65 : decode cX2_addEdge 65 = .ok (.iconst 1, 1) := by decide +kernel
theorem dX2_addEdge_66 : decode cX2_addEdge 66 = .ok (.iadd, 1) := by decide +kernel
theorem dX2_addEdge_67 : decode cX2_addEdge 67 = .ok (.putfield 44, 3) := by decide +kernel
theorem dX2_addEdge_70 : decode cX2_addEdge 70 = .ok (.return_, 1) := by decide +kernel
theorem dX2_addLift_0 : decode cX2_addLift 0 = .ok (.aload_n 0, 1) := by decide +kernel
theorem dX2_addLift_1 : decode cX2_addLift 1 = .ok (.getfield 44, 3) := by decide +kernel
theorem dX2_addLift_4 : decode cX2_addLift 4 = .ok (.iconst 1, 1) := by decide +kernel
theorem dX2_addLift_5 : decode cX2_addLift 5 = .ok (.isub, 1) := by decide +kernel
theorem dX2_addLift_6 : decode cX2_addLift 6 = .ok (.istore_n 2, 1) := by decide +kernel
theorem dX2_addLift_7 : decode cX2_addLift 7 = .ok (.iload_n 2, 1) := by decide +kernel
theorem dX2_addLift_8 : decode cX2_addLift 8 = .ok (.ifCond .lt 41, 3) := by decide +kernel
theorem dX2_addLift_11 : decode cX2_addLift 11 = .ok (.aload_n 0, 1) := by decide +kernel
theorem dX2_addLift_12 : decode cX2_addLift 12 = .ok (.getfield 34, 3) := by decide +kernel
theorem dX2_addLift_15 : decode cX2_addLift 15 = .ok (.iload_n 2, 1) := by decide +kernel
theorem dX2_addLift_16 : decode cX2_addLift 16 = .ok (.iaload, 1) := by decide +kernel
theorem dX2_addLift_17 : decode cX2_addLift 17 = .ok (.bipush 6, 2) := by decide +kernel
theorem dX2_addLift_19 : decode cX2_addLift 19 = .ok (.if_icmp .ge 30, 3) := by decide +kernel
theorem dX2_addLift_22 : decode cX2_addLift 22 = .ok (.aload_n 0, 1) := by decide +kernel
theorem dX2_addLift_23 : decode cX2_addLift 23 = .ok (.getfield 37, 3) := by decide +kernel
theorem dX2_addLift_26 : decode cX2_addLift 26 = .ok (.iload_n 2, 1) := by decide +kernel
theorem dX2_addLift_27 : decode cX2_addLift 27 = .ok (.bipush 6, 2) := by decide +kernel
theorem dX2_addLift_29 : decode cX2_addLift 29 = .ok (.imul, 1) := by decide +kernel
theorem dX2_addLift_30 : decode cX2_addLift 30 = .ok (.aload_n 0, 1) := by decide +kernel
theorem dX2_addLift_31 : decode cX2_addLift 31 = .ok (.getfield 34, 3) := by decide +kernel
theorem dX2_addLift_34 : decode cX2_addLift 34 = .ok (.iload_n 2, 1) := by decide +kernel
theorem dX2_addLift_35 : decode cX2_addLift 35 = .ok (.iaload, 1) := by decide +kernel
theorem dX2_addLift_36 : decode cX2_addLift 36 = .ok (.iadd, 1) := by decide +kernel
theorem dX2_addLift_37 : decode cX2_addLift 37 = .ok (.iload_n 1, 1) := by decide +kernel
theorem dX2_addLift_38 : decode cX2_addLift 38 = .ok (.iastore, 1) := by decide +kernel
theorem dX2_addLift_39 : decode cX2_addLift 39 = .ok (.aload_n 0, 1) := by decide +kernel
theorem dX2_addLift_40 : decode cX2_addLift 40 = .ok (.getfield 34, 3) := by decide +kernel
theorem dX2_addLift_43 : decode cX2_addLift 43 = .ok (.iload_n 2, 1) := by decide +kernel
theorem dX2_addLift_44 : decode cX2_addLift 44 = .ok (.dup2, 1) := by decide +kernel
theorem dX2_addLift_45 : decode cX2_addLift 45 = .ok (.iaload, 1) := by decide +kernel
theorem dX2_addLift_46 : decode cX2_addLift 46 = .ok (.iconst 1, 1) := by decide +kernel
theorem dX2_addLift_47 : decode cX2_addLift 47 = .ok (.iadd, 1) := by decide +kernel
theorem dX2_addLift_48 : decode cX2_addLift 48 = .ok (.iastore, 1) := by decide +kernel
theorem dX2_addLift_49 : decode cX2_addLift 49 = .ok (.return_, 1) := by decide +kernel
theorem dX2_scaleDraws_0 : decode cX2_scaleDraws 0 = .ok (.iconst 0, 1) := by decide +kernel
theorem dX2_scaleDraws_1 : decode cX2_scaleDraws 1 = .ok (.istore_n 3, 1) := by decide +kernel
theorem dX2_scaleDraws_2 : decode cX2_scaleDraws 2 = .ok (.iconst 0, 1) := by decide +kernel
theorem dX2_scaleDraws_3 : decode cX2_scaleDraws 3 = .ok (.istore 4, 2) := by decide +kernel
theorem dX2_scaleDraws_5 : decode cX2_scaleDraws 5 = .ok (.iload 4, 2) := by decide +kernel
theorem dX2_scaleDraws_7 : decode cX2_scaleDraws 7 = .ok (.aload_n 0, 1) := by decide +kernel
theorem dX2_scaleDraws_8 : decode cX2_scaleDraws 8 = .ok (.getfield 40, 3) := by decide +kernel
theorem dX2_scaleDraws_11 : decode cX2_scaleDraws 11 = .ok (.if_icmp .ge 54, 3) := by decide +kernel
theorem dX2_scaleDraws_14 : decode cX2_scaleDraws 14 = .ok (.aload_n 1, 1) := by decide +kernel
theorem dX2_scaleDraws_15 : decode cX2_scaleDraws 15 = .ok (.getfield 15, 3) := by decide +kernel
theorem dX2_scaleDraws_18 : decode cX2_scaleDraws 18 = .ok (.iload 4, 2) := by decide +kernel
theorem dX2_scaleDraws_20 : decode cX2_scaleDraws 20 = .ok (.iaload, 1) := by decide +kernel
theorem dX2_scaleDraws_21 : decode cX2_scaleDraws 21 = .ok (.iload_n 2, 1) := by decide +kernel
theorem dX2_scaleDraws_22 : decode cX2_scaleDraws 22 = .ok (.imul, 1) := by decide +kernel
theorem dX2_scaleDraws_23 : decode cX2_scaleDraws 23 = .ok (.bipush 100, 2) := by decide +kernel
theorem dX2_scaleDraws_25 : decode cX2_scaleDraws 25 = .ok (.idiv, 1) := by decide +kernel
theorem dX2_scaleDraws_26 : decode cX2_scaleDraws 26 = .ok (.istore 5, 2) := by decide +kernel
theorem dX2_scaleDraws_28 : decode cX2_scaleDraws 28 = .ok (.iload_n 3, 1) := by decide +kernel
theorem dX2_scaleDraws_29 : decode cX2_scaleDraws 29 = .ok (.ifCond .ne 15, 3) := by decide +kernel
theorem dX2_scaleDraws_32 : decode cX2_scaleDraws 32 = .ok (.iload 5, 2) := by decide +kernel
theorem dX2_scaleDraws_34 : decode cX2_scaleDraws 34 = .ok (.aload_n 0, 1) := by decide +kernel
theorem dX2_scaleDraws_35 : decode cX2_scaleDraws 35 = .ok (.getfield 15, 3) := by decide +kernel
theorem dX2_scaleDraws_38 : decode cX2_scaleDraws 38 = .ok (.iload 4, 2) := by decide +kernel
theorem dX2_scaleDraws_40 : decode cX2_scaleDraws 40 = .ok (.iaload, 1) := by decide +kernel
theorem dX2_scaleDraws_41 : decode cX2_scaleDraws 41 = .ok (.if_icmp .eq 7, 3) := by decide +kernel
theorem dX2_scaleDraws_44 : decode cX2_scaleDraws 44 = .ok (.iconst 1, 1) := by decide +kernel
theorem dX2_scaleDraws_45 : decode cX2_scaleDraws 45 = .ok (.goto 4, 3) := by decide +kernel
theorem dX2_scaleDraws_48 : decode cX2_scaleDraws 48 = .ok (.iconst 0, 1) := by decide +kernel
theorem dX2_scaleDraws_49 : decode cX2_scaleDraws 49 = .ok (.istore_n 3, 1) := by decide +kernel
theorem dX2_scaleDraws_50 : decode cX2_scaleDraws 50 = .ok (.aload_n 0, 1) := by decide +kernel
theorem dX2_scaleDraws_51 : decode cX2_scaleDraws 51 = .ok (.getfield 15, 3) := by decide +kernel
theorem dX2_scaleDraws_54 : decode cX2_scaleDraws 54 = .ok (.iload 4, 2) := by decide +kernel
theorem dX2_scaleDraws_56 : decode cX2_scaleDraws 56 = .ok (.iload 5, 2) := by decide +kernel
theorem dX2_scaleDraws_58 : decode cX2_scaleDraws 58 = .ok (.iastore, 1) := by decide +kernel
theorem dX2_scaleDraws_59 : decode cX2_scaleDraws 59 = .ok (.iinc 4 1, 3) := by decide +kernel
theorem dX2_scaleDraws_62 : decode cX2_scaleDraws 62 = .ok (.goto (-57), 3) := by decide +kernel
theorem dX2_scaleDraws_65 : decode cX2_scaleDraws 65 = .ok (.iload_n 3, 1) := by decide +kernel
theorem dX2_scaleDraws_66 : decode cX2_scaleDraws 66 = .ok (.ireturn, 1) := by decide +kernel
theorem dX2_edgesAt_0 : decode cX2_edgesAt 0 = .ok (.iconst 0, 1) := by decide +kernel
theorem dX2_edgesAt_1 : decode cX2_edgesAt 1 = .ok (.istore_n 2, 1) := by decide +kernel
theorem dX2_edgesAt_2 : decode cX2_edgesAt 2 = .ok (.iconst 0, 1) := by decide +kernel
theorem dX2_edgesAt_3 : decode cX2_edgesAt 3 = .ok (.istore_n 3, 1) := by decide +kernel
theorem dX2_edgesAt_4 : decode cX2_edgesAt 4 = .ok (.iload_n 3, 1) := by decide +kernel
theorem dX2_edgesAt_5 : decode cX2_edgesAt 5 = .ok (.aload_n 0, 1) := by decide +kernel
theorem dX2_edgesAt_6 : decode cX2_edgesAt 6 = .ok (.getfield 44, 3) := by decide +kernel
theorem dX2_edgesAt_9 : decode cX2_edgesAt 9 = .ok (.if_icmp .ge 35, 3) := by decide +kernel
theorem dX2_edgesAt_12 : decode cX2_edgesAt 12 = .ok (.aload_n 0, 1) := by decide +kernel
theorem dX2_edgesAt_13 : decode cX2_edgesAt 13 = .ok (.getfield 22, 3) := by decide +kernel
theorem dX2_edgesAt_16 : decode cX2_edgesAt 16 = .ok (.iload_n 3, 1) := by decide +kernel
theorem dX2_edgesAt_17 : decode cX2_edgesAt 17 = .ok (.iaload, 1) := by decide +kernel
theorem dX2_edgesAt_18 : decode cX2_edgesAt 18 = .ok (.iload_n 1, 1) := by decide +kernel
theorem dX2_edgesAt_19 : decode cX2_edgesAt 19 = .ok (.if_icmp .eq 13, 3) := by decide +kernel
theorem dX2_edgesAt_22 : decode cX2_edgesAt 22 = .ok (.aload_n 0, 1) := by decide +kernel
theorem dX2_edgesAt_23 : decode cX2_edgesAt 23 = .ok (.getfield 25, 3) := by decide +kernel
theorem dX2_edgesAt_26 : decode cX2_edgesAt 26 = .ok (.iload_n 3, 1) := by decide +kernel
theorem dX2_edgesAt_27 : decode cX2_edgesAt 27 = .ok (.iaload, 1) := by decide +kernel
theorem dX2_edgesAt_28 : decode cX2_edgesAt 28 = .ok (.iload_n 1, 1) := by decide +kernel
theorem dX2_edgesAt_29 : decode cX2_edgesAt 29 = .ok (.if_icmp .ne 9, 3) := by decide +kernel
theorem dX2_edgesAt_32 : decode cX2_edgesAt 32 = .ok (.iload_n 2, 1) := by decide +kernel
theorem dX2_edgesAt_33 : decode cX2_edgesAt 33 = .ok (.iconst 1, 1) := by decide +kernel
theorem dX2_edgesAt_34 : decode cX2_edgesAt 34 = .ok (.iload_n 3, 1) := by decide +kernel
theorem dX2_edgesAt_35 : decode cX2_edgesAt 35 = .ok (.ishl, 1) := by decide +kernel
theorem dX2_edgesAt_36 : decode cX2_edgesAt 36 = .ok (.ior, 1) := by decide +kernel
theorem dX2_edgesAt_37 : decode cX2_edgesAt 37 = .ok (.istore_n 2, 1) := by decide +kernel
theorem dX2_edgesAt_38 : decode cX2_edgesAt 38 = .ok (.iinc 3 1, 3) := by decide +kernel
theorem dX2_edgesAt_41 : decode cX2_edgesAt 41 = .ok (.goto (-37), 3) := by decide +kernel
theorem dX2_edgesAt_44 : decode cX2_edgesAt 44 = .ok (.iload_n 2, 1) := by decide +kernel
theorem dX2_edgesAt_45 : decode cX2_edgesAt 45 = .ok (.ireturn, 1) := by decide +kernel
theorem dX2_otherEnd_0 : decode cX2_otherEnd 0 = .ok (.aload_n 0, 1) := by decide +kernel
theorem dX2_otherEnd_1 : decode cX2_otherEnd 1 = .ok (.getfield 22, 3) := by decide +kernel
theorem dX2_otherEnd_4 : decode cX2_otherEnd 4 = .ok (.iload_n 1, 1) := by decide +kernel
theorem dX2_otherEnd_5 : decode cX2_otherEnd 5 = .ok (.iaload, 1) := by decide +kernel
theorem dX2_otherEnd_6 : decode cX2_otherEnd 6 = .ok (.iload_n 2, 1) := by decide +kernel
theorem dX2_otherEnd_7 : decode cX2_otherEnd 7 = .ok (.if_icmp .ne 10, 3) := by decide +kernel
theorem dX2_otherEnd_10 : decode cX2_otherEnd 10 = .ok (.aload_n 0, 1) := by decide +kernel
theorem dX2_otherEnd_11 : decode cX2_otherEnd 11 = .ok (.getfield 25, 3) := by decide +kernel
theorem dX2_otherEnd_14 : decode cX2_otherEnd 14 = .ok (.iload_n 1, 1) := by decide +kernel
theorem dX2_otherEnd_15 : decode cX2_otherEnd 15 = .ok (.iaload, 1) := by decide +kernel
theorem dX2_otherEnd_16 : decode cX2_otherEnd 16 = .ok (.ireturn, 1) := by decide +kernel
theorem dX2_otherEnd_17 : decode cX2_otherEnd 17 = .ok (.aload_n 0, 1) := by decide +kernel
theorem dX2_otherEnd_18 : decode cX2_otherEnd 18 = .ok (.getfield 25, 3) := by decide +kernel
theorem dX2_otherEnd_21 : decode cX2_otherEnd 21 = .ok (.iload_n 1, 1) := by decide +kernel
theorem dX2_otherEnd_22 : decode cX2_otherEnd 22 = .ok (.iaload, 1) := by decide +kernel
theorem dX2_otherEnd_23 : decode cX2_otherEnd 23 = .ok (.iload_n 2, 1) := by decide +kernel
theorem dX2_otherEnd_24 : decode cX2_otherEnd 24 = .ok (.if_icmp .ne 12, 3) := by decide +kernel
theorem dX2_otherEnd_27 : decode cX2_otherEnd 27 = .ok (.aload_n 0, 1) := by decide +kernel
theorem dX2_otherEnd_28 : decode cX2_otherEnd 28 = .ok (.getfield 22, 3) := by decide +kernel
theorem dX2_otherEnd_31 : decode cX2_otherEnd 31 = .ok (.iload_n 1, 1) := by decide +kernel
theorem dX2_otherEnd_32 : decode cX2_otherEnd 32 = .ok (.iaload, 1) := by decide +kernel
theorem dX2_otherEnd_33 : decode cX2_otherEnd 33 = .ok (.goto 4, 3) := by decide +kernel
theorem dX2_otherEnd_36 : decode cX2_otherEnd 36 = .ok (.iconst (-1), 1) := by decide +kernel
theorem dX2_otherEnd_37 : decode cX2_otherEnd 37 = .ok (.ireturn, 1) := by decide +kernel
theorem dX2_isConnected_0 : decode cX2_isConnected 0 = .ok (.iconst 1, 1) := by decide +kernel
theorem dX2_isConnected_1 : decode cX2_isConnected 1 = .ok (.istore_n 1, 1) := by decide +kernel
theorem dX2_isConnected_2 : decode cX2_isConnected 2 = .ok (.iconst 0, 1) := by decide +kernel
theorem dX2_isConnected_3 : decode cX2_isConnected 3 = .ok (.istore_n 2, 1) := by decide +kernel
theorem dX2_isConnected_4 : decode cX2_isConnected 4 = .ok (.iload_n 2, 1) := by decide +kernel
theorem dX2_isConnected_5 : decode cX2_isConnected 5 = .ok (.aload_n 0, 1) := by decide +kernel
theorem dX2_isConnected_6 : decode cX2_isConnected 6 = .ok (.getfield 40, 3) := by decide +kernel
theorem dX2_isConnected_9 : decode cX2_isConnected 9 = .ok (.if_icmp .ge 56, 3) := by decide +kernel
theorem dX2_isConnected_12 : decode cX2_isConnected 12 = .ok (.iconst 0, 1) := by decide +kernel
theorem dX2_isConnected_13 : decode cX2_isConnected 13 = .ok (.istore_n 3, 1) := by decide +kernel
theorem dX2_isConnected_14 : decode cX2_isConnected 14 = .ok (.iload_n 3, 1) := by decide +kernel
theorem dX2_isConnected_15 : decode cX2_isConnected 15 = .ok (.aload_n 0, 1) := by decide +kernel
theorem dX2_isConnected_16 : decode cX2_isConnected 16 = .ok (.getfield 44, 3) := by decide +kernel
theorem dX2_isConnected_19 : decode cX2_isConnected 19 = .ok (.if_icmp .ge 40, 3) := by decide +kernel
theorem dX2_isConnected_22 : decode cX2_isConnected 22 = .ok (.iconst 1, 1) := by decide +kernel
theorem dX2_isConnected_23 : decode cX2_isConnected 23 = .ok (.aload_n 0, 1) := by decide +kernel
theorem dX2_isConnected_24 : decode cX2_isConnected 24 = .ok (.getfield 22, 3) := by decide +kernel
theorem dX2_isConnected_27 : decode cX2_isConnected 27 = .ok (.iload_n 3, 1) := by decide +kernel
theorem dX2_isConnected_28 : decode cX2_isConnected 28 = .ok (.iaload, 1) := by decide +kernel
theorem dX2_isConnected_29 : decode cX2_isConnected 29 = .ok (.ishl, 1) := by decide +kernel
theorem dX2_isConnected_30 : decode cX2_isConnected 30 = .ok (.iconst 1, 1) := by decide +kernel
theorem dX2_isConnected_31 : decode cX2_isConnected 31 = .ok (.aload_n 0, 1) := by decide +kernel
theorem dX2_isConnected_32 : decode cX2_isConnected 32 = .ok (.getfield 25, 3) := by decide +kernel
theorem dX2_isConnected_35 : decode cX2_isConnected 35 = .ok (.iload_n 3, 1) := by decide +kernel
theorem dX2_isConnected_36 : decode cX2_isConnected 36 = .ok (.iaload, 1) := by decide +kernel
theorem dX2_isConnected_37 : decode cX2_isConnected 37 = .ok (.ishl, 1) := by decide +kernel
theorem dX2_isConnected_38 : decode cX2_isConnected 38 = .ok (.ior, 1) := by decide +kernel
theorem dX2_isConnected_39 : decode cX2_isConnected 39 = .ok (.istore 4, 2) := by decide +kernel
theorem dX2_isConnected_41 : decode cX2_isConnected 41 = .ok (.iload_n 1, 1) := by decide +kernel
theorem dX2_isConnected_42 : decode cX2_isConnected 42 = .ok (.iload 4, 2) := by decide +kernel
theorem dX2_isConnected_44 : decode cX2_isConnected 44 = .ok (.iand, 1) := by decide +kernel
theorem dX2_isConnected_45 : decode cX2_isConnected 45 = .ok (.ifCond .eq 8, 3) := by decide +kernel
theorem dX2_isConnected_48 : decode cX2_isConnected 48 = .ok (.iload_n 1, 1) := by decide +kernel
theorem dX2_isConnected_49 : decode cX2_isConnected 49 = .ok (.iload 4, 2) := by decide +kernel
theorem dX2_isConnected_51 : decode cX2_isConnected 51 = .ok (.ior, 1) := by decide +kernel
theorem dX2_isConnected_52 : decode cX2_isConnected 52 = .ok (.istore_n 1, 1) := by decide +kernel
theorem dX2_isConnected_53 : decode cX2_isConnected 53 = .ok (.iinc 3 1, 3) := by decide +kernel
theorem dX2_isConnected_56 : decode cX2_isConnected 56 = .ok (.goto (-42), 3) := by decide +kernel
theorem dX2_isConnected_59 : decode cX2_isConnected 59 = .ok (.iinc 2 1, 3) := by decide +kernel
theorem dX2_isConnected_62 : decode cX2_isConnected 62 = .ok (.goto (-58), 3) := by decide +kernel
theorem dX2_isConnected_65 : decode cX2_isConnected 65 = .ok (.iload_n 1, 1) := by decide +kernel
theorem dX2_isConnected_66 : decode cX2_isConnected 66 = .ok (.iconst 1, 1) := by decide +kernel
theorem dX2_isConnected_67 : decode cX2_isConnected 67 = .ok (.aload_n 0, 1) := by decide +kernel
theorem dX2_isConnected_68 : decode cX2_isConnected 68 = .ok (.getfield 40, 3) := by decide +kernel
theorem dX2_isConnected_71 : decode cX2_isConnected 71 = .ok (.ishl, 1) := by decide +kernel
theorem dX2_isConnected_72 : decode cX2_isConnected 72 = .ok (.iconst 1, 1) := by decide +kernel
theorem dX2_isConnected_73 : decode cX2_isConnected 73 = .ok (.isub, 1) := by decide +kernel
theorem dX2_isConnected_74 : decode cX2_isConnected 74 = .ok (.if_icmp .ne 7, 3) := by decide +kernel
theorem dX2_isConnected_77 : decode cX2_isConnected 77 = .ok (.iconst 1, 1) := by decide +kernel
theorem dX2_isConnected_78 : decode cX2_isConnected 78 = .ok (.goto 4, 3) := by decide +kernel
theorem dX2_isConnected_81 : decode cX2_isConnected 81 = .ok (.iconst 0, 1) := by decide +kernel
theorem dX2_isConnected_82 : decode cX2_isConnected 82 = .ok (.ireturn, 1) := by decide +kernel
theorem dX2_lossBy_0 : decode cX2_lossBy 0 = .ok (.aload_n 0, 1) := by decide +kernel
theorem dX2_lossBy_1 : decode cX2_lossBy 1 = .ok (.getfield 28, 3) := by decide +kernel
theorem dX2_lossBy_4 : decode cX2_lossBy 4 = .ok (.iload_n 1, 1) := by decide +kernel
theorem dX2_lossBy_5 : decode cX2_lossBy 5 = .ok (.iaload, 1) := by decide +kernel
theorem dX2_lossBy_6 : decode cX2_lossBy 6 = .ok (.iconst 2, 1) := by decide +kernel
theorem dX2_lossBy_7 : decode cX2_lossBy 7 = .ok (.if_icmp .eq 18, 3) := by decide +kernel
theorem dX2_lossBy_10 : decode cX2_lossBy 10 = .ok (.aload_n 0, 1) := by decide +kernel
theorem dX2_lossBy_11 : decode cX2_lossBy 11 = .ok (.getfield 31, 3) := by decide +kernel
theorem dX2_lossBy_14 : decode cX2_lossBy 14 = .ok (.iload_n 1, 1) := by decide +kernel
theorem dX2_lossBy_15 : decode cX2_lossBy 15 = .ok (.iaload, 1) := by decide +kernel
theorem dX2_lossBy_16 : decode cX2_lossBy 16 = .ok (.i2l, 1) := by decide +kernel
theorem dX2_lossBy_17 : decode cX2_lossBy 17 = .ok (.lload_n 2, 1) := by decide +kernel
theorem dX2_lossBy_18 : decode cX2_lossBy 18 = .ok (.lmul, 1) := by decide +kernel
theorem dX2_lossBy_19 : decode cX2_lossBy 19 = .ok (.lload_n 2, 1) := by decide +kernel
theorem dX2_lossBy_20 : decode cX2_lossBy 20 = .ok (.invokestatic 59, 3) := by decide +kernel
theorem dX2_lossBy_23 : decode cX2_lossBy 23 = .ok (.lmul, 1) := by decide +kernel
theorem dX2_lossBy_24 : decode cX2_lossBy 24 = .ok (.lreturn, 1) := by decide +kernel
theorem dX2_lossBy_25 : decode cX2_lossBy 25 = .ok (.lload_n 2, 1) := by decide +kernel
theorem dX2_lossBy_26 : decode cX2_lossBy 26 = .ok (.lconst 0, 1) := by decide +kernel
theorem dX2_lossBy_27 : decode cX2_lossBy 27 = .ok (.lcmp, 1) := by decide +kernel
theorem dX2_lossBy_28 : decode cX2_lossBy 28 = .ok (.ifCond .ge 7, 3) := by decide +kernel
theorem dX2_lossBy_31 : decode cX2_lossBy 31 = .ok (.lconst 0, 1) := by decide +kernel
theorem dX2_lossBy_32 : decode cX2_lossBy 32 = .ok (.goto 8, 3) := by decide +kernel
theorem dX2_lossBy_35 : decode cX2_lossBy 35 = .ok (.lload_n 2, 1) := by decide +kernel
theorem dX2_lossBy_36 : decode cX2_lossBy 36 = .ok (.ldc2_w 65, 3) := by decide +kernel
theorem dX2_lossBy_39 : decode cX2_lossBy 39 = .ok (.ldiv, 1) := by decide +kernel
theorem dX2_lossBy_40 : decode cX2_lossBy 40 = .ok (.lstore 4, 2) := by decide +kernel
theorem dX2_lossBy_42 : decode cX2_lossBy 42 = .ok (.lload 4, 2) := by decide +kernel
theorem dX2_lossBy_44 : decode cX2_lossBy 44 = .ok (.aload_n 0, 1) := by decide +kernel
theorem dX2_lossBy_45 : decode cX2_lossBy 45 = .ok (.getfield 34, 3) := by decide +kernel
theorem dX2_lossBy_48 : decode cX2_lossBy 48 = .ok (.iload_n 1, 1) := by decide +kernel
theorem dX2_lossBy_49 : decode cX2_lossBy 49 = .ok (.iaload, 1) := by decide +kernel
theorem dX2_lossBy_50 : decode cX2_lossBy 50 = .ok (.i2l, 1) := by decide +kernel
theorem dX2_lossBy_51 : decode cX2_lossBy 51 = .ok (.lcmp, 1) := by decide +kernel
theorem dX2_lossBy_52 : decode cX2_lossBy 52 = .ok (.ifCond .ge 24, 3) := by decide +kernel
theorem dX2_lossBy_55 : decode cX2_lossBy 55 = .ok (.ldc2_w 67, 3) := by decide +kernel
theorem dX2_lossBy_58 : decode cX2_lossBy 58 = .ok (.aload_n 0, 1) := by decide +kernel
theorem dX2_lossBy_59 : decode cX2_lossBy 59 = .ok (.getfield 37, 3) := by decide +kernel
theorem dX2_lossBy_62 : decode cX2_lossBy 62 = .ok (.iload_n 1, 1) := by decide +kernel
theorem dX2_lossBy_63 : decode cX2_lossBy 63 = .ok (.bipush 6, 2) := by decide +kernel
theorem dX2_lossBy_65 : decode cX2_lossBy 65 = .ok (.imul, 1) := by decide +kernel
theorem dX2_lossBy_66 : decode cX2_lossBy 66 = .ok (.lload 4, 2) := by decide +kernel
theorem dX2_lossBy_68 : decode cX2_lossBy 68 = .ok (.l2i, 1) := by decide +kernel
theorem dX2_lossBy_69 : decode cX2_lossBy 69 = .ok (.iadd, 1) := by decide +kernel
theorem dX2_lossBy_70 : decode cX2_lossBy 70 = .ok (.iaload, 1) := by decide +kernel
theorem dX2_lossBy_71 : decode cX2_lossBy 71 = .ok (.i2l, 1) := by decide +kernel
theorem dX2_lossBy_72 : decode cX2_lossBy 72 = .ok (.lmul, 1) := by decide +kernel
theorem dX2_lossBy_73 : decode cX2_lossBy 73 = .ok (.goto 4, 3) := by decide +kernel
theorem dX2_lossBy_76 : decode cX2_lossBy 76 = .ok (.lconst 0, 1) := by decide +kernel
theorem dX2_lossBy_77 : decode cX2_lossBy 77 = .ok (.lreturn, 1) := by decide +kernel
theorem dX2_steepBy_0 : decode cX2_steepBy 0 = .ok (.aload_n 0, 1) := by decide +kernel
theorem dX2_steepBy_1 : decode cX2_steepBy 1 = .ok (.getfield 28, 3) := by decide +kernel
theorem dX2_steepBy_4 : decode cX2_steepBy 4 = .ok (.iload_n 1, 1) := by decide +kernel
theorem dX2_steepBy_5 : decode cX2_steepBy 5 = .ok (.iaload, 1) := by decide +kernel
theorem dX2_steepBy_6 : decode cX2_steepBy 6 = .ok (.iconst 2, 1) := by decide +kernel
theorem dX2_steepBy_7 : decode cX2_steepBy 7 = .ok (.if_icmp .ne 7, 3) := by decide +kernel
theorem dX2_steepBy_10 : decode cX2_steepBy 10 = .ok (.lconst 1, 1) := by decide +kernel
theorem dX2_steepBy_11 : decode cX2_steepBy 11 = .ok (.goto 21, 3) := by decide +kernel
theorem dX2_steepBy_14 : decode cX2_steepBy 14 = .ok (.aload_n 0, 1) := by decide +kernel
theorem dX2_steepBy_15 : decode cX2_steepBy 15 = .ok (.getfield 31, 3) := by decide +kernel
theorem dX2_steepBy_18 : decode cX2_steepBy 18 = .ok (.iload_n 1, 1) := by decide +kernel
theorem dX2_steepBy_19 : decode cX2_steepBy 19 = .ok (.iaload, 1) := by decide +kernel
theorem dX2_steepBy_20 : decode cX2_steepBy 20 = .ok (.i2l, 1) := by decide +kernel
theorem dX2_steepBy_21 : decode cX2_steepBy 21 = .ok (.ldc2_w 69, 3) := by decide +kernel
theorem dX2_steepBy_24 : decode cX2_steepBy 24 = .ok (.lload_n 2, 1) := by decide +kernel
theorem dX2_steepBy_25 : decode cX2_steepBy 25 = .ok (.invokestatic 59, 3) := by decide +kernel
theorem dX2_steepBy_28 : decode cX2_steepBy 28 = .ok (.lmul, 1) := by decide +kernel
theorem dX2_steepBy_29 : decode cX2_steepBy 29 = .ok (.lconst 1, 1) := by decide +kernel
theorem dX2_steepBy_30 : decode cX2_steepBy 30 = .ok (.ladd, 1) := by decide +kernel
theorem dX2_steepBy_31 : decode cX2_steepBy 31 = .ok (.lmul, 1) := by decide +kernel
theorem dX2_steepBy_32 : decode cX2_steepBy 32 = .ok (.lreturn, 1) := by decide +kernel
