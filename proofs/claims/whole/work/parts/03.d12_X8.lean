theorem dX8_init_0 : decode cX8_init 0 = .ok (.aload_n 0, 1) := by decide +kernel
theorem dX8_init_1 : decode cX8_init 1 = .ok (.invokespecial 3, 3) := by decide +kernel
theorem dX8_init_4 : decode cX8_init 4 = .ok (.aload_n 0, 1) := by decide +kernel
theorem dX8_init_5 : decode cX8_init 5 = .ok (.iconst (-1), 1) := by decide +kernel
theorem dX8_init_6 : decode cX8_init 6 = .ok (.putfield 11, 3) := by decide +kernel
theorem dX8_init_9 : decode cX8_init 9 = .ok (.aload_n 0, 1) := by decide +kernel
theorem dX8_init_10 : decode cX8_init 10 = .ok (.sipush 600, 3) := by decide +kernel
theorem dX8_init_13 : decode cX8_init 13 = .ok (.newarray .int, 2) := by decide +kernel
theorem dX8_init_15 : decode cX8_init 15 = .ok (.putfield 15, 3) := by decide +kernel
theorem dX8_init_18 : decode cX8_init 18 = .ok (.aload_n 0, 1) := by decide +kernel
theorem dX8_init_19 : decode cX8_init 19 = .ok (.bipush 18, 2) := by decide +kernel
theorem dX8_init_21 : decode cX8_init 21 = .ok (.newarray .int, 2) := by decide +kernel
theorem dX8_init_23 : decode cX8_init 23 = .ok (.putfield 19, 3) := by decide +kernel
theorem dX8_init_26 : decode cX8_init 26 = .ok (.aload_n 0, 1) := by decide +kernel
theorem dX8_init_27 : decode cX8_init 27 = .ok (.bipush 18, 2) := by decide +kernel
theorem dX8_init_29 : decode cX8_init 29 = .ok (.newarray .int, 2) := by decide +kernel
theorem dX8_init_31 : decode cX8_init 31 = .ok (.putfield 22, 3) := by decide +kernel
theorem dX8_init_34 : decode cX8_init 34 = .ok (.aload_n 0, 1) := by decide +kernel
theorem dX8_init_35 : decode cX8_init 35 = .ok (.bipush 108, 2) := by decide +kernel
theorem dX8_init_37 : decode cX8_init 37 = .ok (.newarray .int, 2) := by decide +kernel
theorem dX8_init_39 : decode cX8_init 39 = .ok (.putfield 25, 3) := by decide +kernel
theorem dX8_init_42 : decode cX8_init 42 = .ok (.aload_n 0, 1) := by decide +kernel
theorem dX8_init_43 : decode cX8_init 43 = .ok (.bipush 28, 2) := by decide +kernel
theorem dX8_init_45 : decode cX8_init 45 = .ok (.newarray .int, 2) := by decide +kernel
theorem dX8_init_47 : decode cX8_init 47 = .ok (.putfield 28, 3) := by decide +kernel
theorem dX8_init_50 : decode cX8_init 50 = .ok (.aload_n 0, 1) := by decide +kernel
theorem dX8_init_51 : decode cX8_init 51 = .ok (.bipush 28, 2) := by decide +kernel
theorem dX8_init_53 : decode cX8_init 53 = .ok (.newarray .int, 2) := by decide +kernel
theorem dX8_init_55 : decode cX8_init 55 = .ok (.putfield 31, 3) := by decide +kernel
theorem dX8_init_58 : decode cX8_init 58 = .ok (.aload_n 0, 1) := by decide +kernel
theorem dX8_init_59 : decode cX8_init 59 = .ok (.bipush 28, 2) := by decide +kernel
theorem dX8_init_61 : decode cX8_init 61 = .ok (.newarray .int, 2) := by decide +kernel
theorem dX8_init_63 : decode cX8_init 63 = .ok (.putfield 34, 3) := by decide +kernel
theorem dX8_init_66 : decode cX8_init 66 = .ok (.aload_n 0, 1) := by decide +kernel
theorem dX8_init_67 : decode cX8_init 67 = .ok (.bipush 28, 2) := by decide +kernel
theorem dX8_init_69 : decode cX8_init 69 = .ok (.newarray .int, 2) := by decide +kernel
theorem dX8_init_71 : decode cX8_init 71 = .ok (.putfield 37, 3) := by decide +kernel
theorem dX8_init_74 : decode cX8_init 74 = .ok (.aload_n 0, 1) := by decide +kernel
theorem dX8_init_75 : decode cX8_init 75 = .ok (.sipush 168, 3) := by decide +kernel
theorem dX8_init_78 : decode cX8_init 78 = .ok (.newarray .int, 2) := by decide +kernel
theorem dX8_init_80 : decode cX8_init 80 = .ok (.putfield 40, 3) := by decide +kernel
theorem dX8_init_83 : decode cX8_init 83 = .ok (.aload_n 0, 1) := by decide +kernel
theorem dX8_init_84 : decode cX8_init 84 = .ok (.bipush 28, 2) := by decide +kernel
theorem dX8_init_86 : decode cX8_init 86 = .ok (.newarray .int, 2) := by decide +kernel
theorem dX8_init_88 : decode cX8_init 88 = .ok (.putfield 43, 3) := by decide +kernel
theorem dX8_init_91 : decode cX8_init 91 = .ok (.aload_n 0, 1) := by decide +kernel
theorem dX8_init_92 : decode cX8_init 92 = .ok (.bipush 9, 2) := by decide +kernel
theorem dX8_init_94 : decode cX8_init 94 = .ok (.newarray .int, 2) := by decide +kernel
theorem dX8_init_96 : decode cX8_init 96 = .ok (.putfield 46, 3) := by decide +kernel
theorem dX8_init_99 : decode cX8_init 99 = .ok (.aload_n 0, 1) := by decide +kernel
theorem dX8_init_100 : decode cX8_init 100 = .ok (.bipush 9, 2) := by decide +kernel
theorem dX8_init_102 : decode cX8_init 102 = .ok (.newarray .int, 2) := by decide +kernel
theorem dX8_init_104 : decode cX8_init 104 = .ok (.putfield 49, 3) := by decide +kernel
theorem dX8_init_107 : decode cX8_init 107 = .ok (.aload_n 0, 1) := by decide +kernel
theorem dX8_init_108 : decode cX8_init 108 = .ok (.bipush 14, 2) := by decide +kernel
theorem dX8_init_110 : decode cX8_init 110 = .ok (.newarray .long, 2) := by decide +kernel
theorem dX8_init_112 : decode cX8_init 112 = .ok (.putfield 52, 3) := by decide +kernel
theorem dX8_init_115 : decode cX8_init 115 = .ok (.aload_n 0, 1) := by decide +kernel
theorem dX8_init_116 : decode cX8_init 116 = .ok (.sipush 196, 3) := by decide +kernel
theorem dX8_init_119 : decode cX8_init 119 = .ok (.newarray .int, 2) := by decide +kernel
theorem dX8_init_121 : decode cX8_init 121 = .ok (.putfield 56, 3) := by decide +kernel
theorem dX8_init_124 : decode cX8_init 124 = .ok (.aload_n 0, 1) := by decide +kernel
theorem dX8_init_125 : decode cX8_init 125 = .ok (.sipush 196, 3) := by decide +kernel
theorem dX8_init_128 : decode cX8_init 128 = .ok (.newarray .int, 2) := by decide +kernel
theorem dX8_init_130 : decode cX8_init 130 = .ok (.putfield 59, 3) := by decide +kernel
theorem dX8_init_133 : decode cX8_init 133 = .ok (.aload_n 0, 1) := by decide +kernel
theorem dX8_init_134 : decode cX8_init 134 = .ok (.bipush 14, 2) := by decide +kernel
theorem dX8_init_136 : decode cX8_init 136 = .ok (.newarray .int, 2) := by decide +kernel
theorem dX8_init_138 : decode cX8_init 138 = .ok (.putfield 62, 3) := by decide +kernel
theorem dX8_init_141 : decode cX8_init 141 = .ok (.aload_n 0, 1) := by decide +kernel
theorem dX8_init_142 : decode cX8_init 142 = .ok (.bipush 9, 2) := by decide +kernel
theorem dX8_init_144 : decode cX8_init 144 = .ok (.newarray .long, 2) := by decide +kernel
theorem dX8_init_146 : decode cX8_init 146 = .ok (.putfield 65, 3) := by decide +kernel
theorem dX8_init_149 : decode cX8_init 149 = .ok (.aload_n 0, 1) := by decide +kernel
theorem dX8_init_150 : decode cX8_init 150 = .ok (.bipush 9, 2) := by decide +kernel
theorem dX8_init_152 : decode cX8_init 152 = .ok (.newarray .int, 2) := by decide +kernel
theorem dX8_init_154 : decode cX8_init 154 = .ok (.putfield 68, 3) := by decide +kernel
theorem dX8_init_157 : decode cX8_init 157 = .ok (.aload_n 0, 1) := by decide +kernel
theorem dX8_init_158 : decode cX8_init 158 = .ok (.bipush 9, 2) := by decide +kernel
theorem dX8_init_160 : decode cX8_init 160 = .ok (.newarray .long, 2) := by decide +kernel
theorem dX8_init_162 : decode cX8_init 162 = .ok (.putfield 71, 3) := by decide +kernel
theorem dX8_init_165 : decode cX8_init 165 = .ok (.aload_n 0, 1) := by decide +kernel
theorem dX8_init_166 : decode cX8_init 166 = .ok (.iconst (-1), 1) := by decide +kernel
theorem dX8_init_167 : decode cX8_init 167 = .ok (.putfield 74, 3) := by decide +kernel
theorem dX8_init_170 : decode cX8_init 170 = .ok (.aload_n 0, 1) := by decide +kernel
theorem dX8_init_171 : decode cX8_init 171 = .ok (.bipush 100, 2) := by decide +kernel
theorem dX8_init_173 : decode cX8_init 173 = .ok (.putfield 77, 3) := by decide +kernel
theorem dX8_init_176 : decode cX8_init 176 = .ok (.aload_n 0, 1) := by decide +kernel
theorem dX8_init_177 : decode cX8_init 177 = .ok (.bipush 9, 2) := by decide +kernel
theorem dX8_init_179 : decode cX8_init 179 = .ok (.newarray .boolean, 2) := by decide +kernel
theorem dX8_init_181 : decode cX8_init 181 = .ok (.putfield 80, 3) := by decide +kernel
theorem dX8_init_184 : decode cX8_init 184 = .ok (.aload_n 0, 1) := by decide +kernel
theorem dX8_init_185 : decode cX8_init 185 = .ok (.bipush 9, 2) := by decide +kernel
theorem dX8_init_187 : decode cX8_init 187 = .ok (.newarray .int, 2) := by decide +kernel
theorem dX8_init_189 : decode cX8_init 189 = .ok (.putfield 84, 3) := by decide +kernel
theorem dX8_init_192 : decode cX8_init 192 = .ok (.aload_n 0, 1) := by decide +kernel
theorem dX8_init_193 : decode cX8_init 193 = .ok (.bipush 108, 2) := by decide +kernel
theorem dX8_init_195 : decode cX8_init 195 = .ok (.newarray .int, 2) := by decide +kernel
theorem dX8_init_197 : decode cX8_init 197 = .ok (.putfield 87, 3) := by decide +kernel
theorem dX8_init_200 : decode cX8_init 200 = .ok (.aload_n 0, 1) := by decide +kernel
theorem dX8_init_201 : decode cX8_init 201 = .ok (.sipush 168, 3) := by decide +kernel
theorem dX8_init_204 : decode cX8_init 204 = .ok (.newarray .int, 2) := by decide +kernel
theorem dX8_init_206 : decode cX8_init 206 = .ok (.putfield 90, 3) := by decide +kernel
theorem dX8_init_209 : decode cX8_init 209 = .ok (.aload_n 0, 1) := by decide +kernel
theorem dX8_init_210 : decode cX8_init 210 = .ok (.bipush 12, 2) := by decide +kernel
theorem dX8_init_212 : decode cX8_init 212 = .ok (.newarray .int, 2) := by decide +kernel
theorem dX8_init_214 : decode cX8_init 214 = .ok (.putfield 93, 3) := by decide +kernel
theorem dX8_init_217 : decode cX8_init 217 = .ok (.return_, 1) := by decide +kernel
theorem dX8_thrown_0 : decode cX8_thrown 0 = .ok (.aload_n 0, 1) := by decide +kernel
theorem dX8_thrown_1 : decode cX8_thrown 1 = .ok (.getfield 96, 3) := by decide +kernel
theorem dX8_thrown_4 : decode cX8_thrown 4 = .ok (.ireturn, 1) := by decide +kernel
theorem dX8_in_0 : decode cX8_in 0 = .ok (.lload_n 0, 1) := by decide +kernel
theorem dX8_in_1 : decode cX8_in 1 = .ok (.lload_n 2, 1) := by decide +kernel
theorem dX8_in_2 : decode cX8_in 2 = .ok (.lcmp, 1) := by decide +kernel
theorem dX8_in_3 : decode cX8_in 3 = .ok (.ifCond .lt 14, 3) := by decide +kernel
theorem dX8_in_6 : decode cX8_in 6 = .ok (.lload_n 0, 1) := by decide +kernel
theorem dX8_in_7 : decode cX8_in 7 = .ok (.lload 4, 2) := by decide +kernel
theorem dX8_in_9 : decode cX8_in 9 = .ok (.lcmp, 1) := by decide +kernel
theorem dX8_in_10 : decode cX8_in 10 = .ok (.ifCond .gt 7, 3) := by decide +kernel
theorem dX8_in_13 : decode cX8_in 13 = .ok (.iconst 1, 1) := by decide +kernel
theorem dX8_in_14 : decode cX8_in 14 = .ok (.goto 4, 3) := by decide +kernel
theorem dX8_in_17 : decode cX8_in 17 = .ok (.iconst 0, 1) := by decide +kernel
theorem dX8_in_18 : decode cX8_in 18 = .ok (.ireturn, 1) := by decide +kernel
theorem dX8_no_0 : decode cX8_no 0 = .ok (.aload_n 0, 1) := by decide +kernel
theorem dX8_no_1 : decode cX8_no 1 = .ok (.iload_n 1, 1) := by decide +kernel
theorem dX8_no_2 : decode cX8_no 2 = .ok (.putfield 99, 3) := by decide +kernel
theorem dX8_no_5 : decode cX8_no 5 = .ok (.iconst (-1), 1) := by decide +kernel
theorem dX8_no_6 : decode cX8_no 6 = .ok (.ireturn, 1) := by decide +kernel
theorem dX8_nothing_0 : decode cX8_nothing 0 = .ok (.aload_n 0, 1) := by decide +kernel
theorem dX8_nothing_1 : decode cX8_nothing 1 = .ok (.iload_n 1, 1) := by decide +kernel
theorem dX8_nothing_2 : decode cX8_nothing 2 = .ok (.putfield 99, 3) := by decide +kernel
theorem dX8_nothing_5 : decode cX8_nothing 5 = .ok (.ldc2_w 102, 3) := by decide +kernel
theorem dX8_nothing_8 : decode cX8_nothing 8 = .ok (.lreturn, 1) := by decide +kernel
theorem dX8_isRefused_0 : decode cX8_isRefused 0 = .ok (.aload_n 0, 1) := by decide +kernel
theorem dX8_isRefused_1 : decode cX8_isRefused 1 = .ok (.iconst 0, 1) := by decide +kernel
theorem dX8_isRefused_2 : decode cX8_isRefused 2 = .ok (.putfield 96, 3) := by decide +kernel
theorem dX8_isRefused_5 : decode cX8_isRefused 5 = .ok (.aload_n 0, 1) := by decide +kernel
theorem dX8_isRefused_6 : decode cX8_isRefused 6 = .ok (.iconst (-1), 1) := by decide +kernel
theorem dX8_isRefused_7 : decode cX8_isRefused 7 = .ok (.putfield 11, 3) := by decide +kernel
theorem dX8_isRefused_10 : decode cX8_isRefused 10 = .ok (.aload_n 0, 1) := by decide +kernel
theorem dX8_isRefused_11 : decode cX8_isRefused 11 = .ok (.iload_n 1, 1) := by decide +kernel
theorem dX8_isRefused_12 : decode cX8_isRefused 12 = .ok (.putfield 99, 3) := by decide +kernel
theorem dX8_isRefused_15 : decode cX8_isRefused 15 = .ok (.iload_n 1, 1) := by decide +kernel
theorem dX8_isRefused_16 : decode cX8_isRefused 16 = .ok (.ifCond .eq 7, 3) := by decide +kernel
theorem dX8_isRefused_19 : decode cX8_isRefused 19 = .ok (.iconst 1, 1) := by decide +kernel
theorem dX8_isRefused_20 : decode cX8_isRefused 20 = .ok (.goto 4, 3) := by decide +kernel
theorem dX8_isRefused_23 : decode cX8_isRefused 23 = .ok (.iconst 0, 1) := by decide +kernel
theorem dX8_isRefused_24 : decode cX8_isRefused 24 = .ok (.ireturn, 1) := by decide +kernel
theorem dX8_unless_0 : decode cX8_unless 0 = .ok (.iload_n 0, 1) := by decide +kernel
theorem dX8_unless_1 : decode cX8_unless 1 = .ok (.ifCond .eq 7, 3) := by decide +kernel
theorem dX8_unless_4 : decode cX8_unless 4 = .ok (.iconst 0, 1) := by decide +kernel
theorem dX8_unless_5 : decode cX8_unless 5 = .ok (.goto 4, 3) := by decide +kernel
theorem dX8_unless_8 : decode cX8_unless 8 = .ok (.iconst 1, 1) := by decide +kernel
theorem dX8_unless_9 : decode cX8_unless 9 = .ok (.ireturn, 1) := by decide +kernel
theorem dX8_unless__0 : decode cX8_unless_ 0 = .ok (.iload_n 0, 1) := by decide +kernel
theorem dX8_unless__1 : decode cX8_unless_ 1 = .ok (.ifCond .ne 7, 3) := by decide +kernel
theorem dX8_unless__4 : decode cX8_unless_ 4 = .ok (.iconst 1, 1) := by decide +kernel
theorem dX8_unless__5 : decode cX8_unless_ 5 = .ok (.goto 12, 3) := by decide +kernel
theorem dX8_unless__8 : decode cX8_unless_ 8 = .ok (.iload_n 1, 1) := by decide +kernel
theorem dX8_unless__9 : decode cX8_unless_ 9 = .ok (.ifCond .eq 7, 3) := by decide +kernel
theorem dX8_unless__12 : decode cX8_unless_ 12 = .ok (.iconst 0, 1) := by decide +kernel
theorem dX8_unless__13 : decode cX8_unless_ 13 = .ok (.goto 4, 3) := by decide +kernel
theorem dX8_unless__16 : decode cX8_unless_ 16 = .ok (.iconst 2, 1) := by decide +kernel
theorem dX8_unless__17 : decode cX8_unless_ 17 = .ok (.ireturn, 1) := by decide +kernel
theorem dX8_feed_0 : decode cX8_feed 0 = .ok (.aload_n 0, 1) := by decide +kernel
theorem dX8_feed_1 : decode cX8_feed 1 = .ok (.iconst 0, 1) := by decide +kernel
theorem dX8_feed_2 : decode cX8_feed 2 = .ok (.putfield 96, 3) := by decide +kernel
theorem dX8_feed_5 : decode cX8_feed 5 = .ok (.aload_n 0, 1) := by decide +kernel
theorem dX8_feed_6 : decode cX8_feed 6 = .ok (.getfield 104, 3) := by decide +kernel
theorem dX8_feed_9 : decode cX8_feed 9 = .ok (.sipush 580, 3) := by decide +kernel
theorem dX8_feed_12 : decode cX8_feed 12 = .ok (.if_icmp .le 5, 3) := by decide +kernel
theorem dX8_feed_15 : decode cX8_feed 15 = .ok (.iconst (-1), 1) := by decide +kernel
theorem dX8_feed_16 : decode cX8_feed 16 = .ok (.ireturn, 1) := by decide +kernel
theorem dX8_feed_17 : decode cX8_feed 17 = .ok (.aload_n 0, 1) := by decide +kernel
theorem dX8_feed_18 : decode cX8_feed 18 = .ok (.iload_n 1, 1) := by decide +kernel
theorem dX8_feed_19 : decode cX8_feed 19 = .ok (.invokevirtual 107, 3) := by decide +kernel
theorem dX8_feed_22 : decode cX8_feed 22 = .ok (.aload_n 0, 1) := by decide +kernel
theorem dX8_feed_23 : decode cX8_feed 23 = .ok (.iload_n 2, 1) := by decide +kernel
theorem dX8_feed_24 : decode cX8_feed 24 = .ok (.invokevirtual 107, 3) := by decide +kernel
theorem dX8_feed_27 : decode cX8_feed 27 = .ok (.aload_n 0, 1) := by decide +kernel
theorem dX8_feed_28 : decode cX8_feed 28 = .ok (.iload_n 3, 1) := by decide +kernel
theorem dX8_feed_29 : decode cX8_feed 29 = .ok (.invokevirtual 107, 3) := by decide +kernel
theorem dX8_feed_32 : decode cX8_feed 32 = .ok (.aload_n 0, 1) := by decide +kernel
theorem dX8_feed_33 : decode cX8_feed 33 = .ok (.iload 4, 2) := by decide +kernel
theorem dX8_feed_35 : decode cX8_feed 35 = .ok (.invokevirtual 107, 3) := by decide +kernel
theorem dX8_feed_38 : decode cX8_feed 38 = .ok (.aload_n 0, 1) := by decide +kernel
theorem dX8_feed_39 : decode cX8_feed 39 = .ok (.iload 5, 2) := by decide +kernel
theorem dX8_feed_41 : decode cX8_feed 41 = .ok (.invokevirtual 107, 3) := by decide +kernel
theorem dX8_feed_44 : decode cX8_feed 44 = .ok (.aload_n 0, 1) := by decide +kernel
theorem dX8_feed_45 : decode cX8_feed 45 = .ok (.getfield 104, 3) := by decide +kernel
theorem dX8_feed_48 : decode cX8_feed 48 = .ok (.ireturn, 1) := by decide +kernel
theorem dX8_laysWord_0 : decode cX8_laysWord 0 = .ok (.iconst 0, 1) := by decide +kernel
theorem dX8_laysWord_1 : decode cX8_laysWord 1 = .ok (.istore_n 2, 1) := by decide +kernel
theorem dX8_laysWord_2 : decode cX8_laysWord 2 = .ok (.iload_n 2, 1) := by decide +kernel
theorem dX8_laysWord_3 : decode cX8_laysWord 3 = .ok (.iconst 4, 1) := by decide +kernel
theorem dX8_laysWord_4 : decode cX8_laysWord 4 = .ok (.if_icmp .ge 33, 3) := by decide +kernel
theorem dX8_laysWord_7 : decode cX8_laysWord 7 = .ok (.aload_n 0, 1) := by decide +kernel
theorem dX8_laysWord_8 : decode cX8_laysWord 8 = .ok (.getfield 15, 3) := by decide +kernel
theorem dX8_laysWord_11 : decode cX8_laysWord 11 = .ok (.aload_n 0, 1) := by decide +kernel
theorem dX8_laysWord_12 : decode cX8_laysWord 12 = .ok (.getfield 104, 3) := by decide +kernel
theorem dX8_laysWord_15 : decode cX8_laysWord 15 = .ok (.iload_n 2, 1) := by decide +kernel
theorem dX8_laysWord_16 : decode cX8_laysWord 16 = .ok (.iadd, 1) := by decide +kernel
theorem dX8_laysWord_17 : decode cX8_laysWord 17 = .ok (.iload_n 1, 1) := by decide +kernel
theorem dX8_laysWord_18 : decode cX8_laysWord 18 = .ok (.bipush 24, 2) := by decide +kernel
theorem dX8_laysWord_20 : decode cX8_laysWord 20 = .ok (.bipush 8, 2) := by decide +kernel
theorem dX8_laysWord_22 : decode cX8_laysWord 22 = .ok (.iload_n 2, 1) := by decide +kernel
theorem dX8_laysWord_23 : decode cX8_laysWord 23 = .ok (.imul, 1) := by decide +kernel
theorem dX8_laysWord_24 : decode cX8_laysWord 24 = .ok (.isub, 1) := by decide +kernel
theorem dX8_laysWord_25 : decode cX8_laysWord 25 = .ok (.ishr, 1) := by decide +kernel
theorem dX8_laysWord_26 : decode cX8_laysWord 26 = .ok (.sipush 255, 3) := by decide +kernel
theorem dX8_laysWord_29 : decode cX8_laysWord 29 = .ok (.iand, 1) := by decide +kernel
theorem dX8_laysWord_30 : decode cX8_laysWord 30 = .ok (.iastore, 1) := by decide +kernel
theorem dX8_laysWord_31 : decode cX8_laysWord 31 = .ok (.iinc 2 1, 3) := by decide +kernel
theorem dX8_laysWord_34 : decode cX8_laysWord 34 = .ok (.goto (-32), 3) := by decide +kernel
theorem dX8_laysWord_37 : decode cX8_laysWord 37 = .ok (.aload_n 0, 1) := by decide +kernel
theorem dX8_laysWord_38 : decode cX8_laysWord 38 = .ok (.dup, 1) := by decide +kernel
theorem dX8_laysWord_39 : decode cX8_laysWord 39 = .ok (.getfield 104, 3) := by decide +kernel
theorem dX8_laysWord_42 : decode cX8_laysWord 42 = .ok (.iconst 4, 1) := by decide +kernel
theorem dX8_laysWord_43 : decode cX8_laysWord 43 = .ok (.iadd, 1) := by decide +kernel
theorem dX8_laysWord_44 : decode cX8_laysWord 44 = .ok (.putfield 104, 3) := by decide +kernel
theorem dX8_laysWord_47 : decode cX8_laysWord 47 = .ok (.return_, 1) := by decide +kernel
theorem dX8_see_0 : decode cX8_see 0 = .ok (.iload_n 1, 1) := by decide +kernel
theorem dX8_see_1 : decode cX8_see 1 = .ok (.aload_n 0, 1) := by decide +kernel
theorem dX8_see_2 : decode cX8_see 2 = .ok (.getfield 111, 3) := by decide +kernel
theorem dX8_see_5 : decode cX8_see 5 = .ok (.if_icmp .ge 12, 3) := by decide +kernel
theorem dX8_see_8 : decode cX8_see 8 = .ok (.aload_n 0, 1) := by decide +kernel
theorem dX8_see_9 : decode cX8_see 9 = .ok (.getfield 15, 3) := by decide +kernel
theorem dX8_see_12 : decode cX8_see 12 = .ok (.iload_n 1, 1) := by decide +kernel
theorem dX8_see_13 : decode cX8_see 13 = .ok (.iaload, 1) := by decide +kernel
theorem dX8_see_14 : decode cX8_see 14 = .ok (.goto 4, 3) := by decide +kernel
theorem dX8_see_17 : decode cX8_see 17 = .ok (.iconst (-1), 1) := by decide +kernel
theorem dX8_see_18 : decode cX8_see 18 = .ok (.ireturn, 1) := by decide +kernel
theorem dX8_goesOn_0 : decode cX8_goesOn 0 = .ok (.aload_n 0, 1) := by decide +kernel
theorem dX8_goesOn_1 : decode cX8_goesOn 1 = .ok (.aload_n 0, 1) := by decide +kernel
theorem dX8_goesOn_2 : decode cX8_goesOn 2 = .ok (.getfield 114, 3) := by decide +kernel
theorem dX8_goesOn_5 : decode cX8_goesOn 5 = .ok (.invokevirtual 117, 3) := by decide +kernel
theorem dX8_goesOn_8 : decode cX8_goesOn 8 = .ok (.bipush 32, 2) := by decide +kernel
theorem dX8_goesOn_10 : decode cX8_goesOn 10 = .ok (.if_icmp .ne 16, 3) := by decide +kernel
theorem dX8_goesOn_13 : decode cX8_goesOn 13 = .ok (.aload_n 0, 1) := by decide +kernel
theorem dX8_goesOn_14 : decode cX8_goesOn 14 = .ok (.dup, 1) := by decide +kernel
theorem dX8_goesOn_15 : decode cX8_goesOn 15 = .ok (.getfield 114, 3) := by decide +kernel
theorem dX8_goesOn_18 : decode cX8_goesOn 18 = .ok (.iconst 1, 1) := by decide +kernel
theorem dX8_goesOn_19 : decode cX8_goesOn 19 = .ok (.iadd, 1) := by decide +kernel
theorem dX8_goesOn_20 : decode cX8_goesOn 20 = .ok (.putfield 114, 3) := by decide +kernel
theorem dX8_goesOn_23 : decode cX8_goesOn 23 = .ok (.goto (-23), 3) := by decide +kernel
theorem dX8_goesOn_26 : decode cX8_goesOn 26 = .ok (.aload_n 0, 1) := by decide +kernel
theorem dX8_goesOn_27 : decode cX8_goesOn 27 = .ok (.aload_n 0, 1) := by decide +kernel
theorem dX8_goesOn_28 : decode cX8_goesOn 28 = .ok (.getfield 114, 3) := by decide +kernel
theorem dX8_goesOn_31 : decode cX8_goesOn 31 = .ok (.putfield 121, 3) := by decide +kernel
theorem dX8_goesOn_34 : decode cX8_goesOn 34 = .ok (.aload_n 0, 1) := by decide +kernel
theorem dX8_goesOn_35 : decode cX8_goesOn 35 = .ok (.aload_n 0, 1) := by decide +kernel
theorem dX8_goesOn_36 : decode cX8_goesOn 36 = .ok (.getfield 114, 3) := by decide +kernel
theorem dX8_goesOn_39 : decode cX8_goesOn 39 = .ok (.invokevirtual 117, 3) := by decide +kernel
theorem dX8_goesOn_42 : decode cX8_goesOn 42 = .ok (.istore_n 1, 1) := by decide +kernel
theorem dX8_goesOn_43 : decode cX8_goesOn 43 = .ok (.iload_n 1, 1) := by decide +kernel
theorem dX8_goesOn_44 : decode cX8_goesOn 44 = .ok (.iconst (-1), 1) := by decide +kernel
theorem dX8_goesOn_45 : decode cX8_goesOn 45 = .ok (.if_icmp .ne 9, 3) := by decide +kernel
theorem dX8_goesOn_48 : decode cX8_goesOn 48 = .ok (.aload_n 0, 1) := by decide +kernel
theorem dX8_goesOn_49 : decode cX8_goesOn 49 = .ok (.iconst 0, 1) := by decide +kernel
theorem dX8_goesOn_50 : decode cX8_goesOn 50 = .ok (.putfield 124, 3) := by decide +kernel
theorem dX8_goesOn_53 : decode cX8_goesOn 53 = .ok (.return_, 1) := by decide +kernel
theorem dX8_goesOn_54 : decode cX8_goesOn 54 = .ok (.iload_n 1, 1) := by decide +kernel
theorem dX8_goesOn_55 : decode cX8_goesOn 55 = .ok (.i2l, 1) := by decide +kernel
theorem dX8_goesOn_56 : decode cX8_goesOn 56 = .ok (.ldc2_w 127, 3) := by decide +kernel
theorem dX8_goesOn_59 : decode cX8_goesOn 59 = .ok (.ldc2_w 129, 3) := by decide +kernel
theorem dX8_goesOn_62 : decode cX8_goesOn 62 = .ok (.invokestatic 131, 3) := by decide +kernel
theorem dX8_goesOn_65 : decode cX8_goesOn 65 = .ok (.ifCond .eq 61, 3) := by decide +kernel
theorem dX8_goesOn_68 : decode cX8_goesOn 68 = .ok (.aload_n 0, 1) := by decide +kernel
theorem dX8_goesOn_69 : decode cX8_goesOn 69 = .ok (.aload_n 0, 1) := by decide +kernel
theorem dX8_goesOn_70 : decode cX8_goesOn 70 = .ok (.getfield 114, 3) := by decide +kernel
theorem dX8_goesOn_73 : decode cX8_goesOn 73 = .ok (.invokevirtual 117, 3) := by decide +kernel
theorem dX8_goesOn_76 : decode cX8_goesOn 76 = .ok (.i2l, 1) := by decide +kernel
theorem dX8_goesOn_77 : decode cX8_goesOn 77 = .ok (.ldc2_w 127, 3) := by decide +kernel
theorem dX8_goesOn_80 : decode cX8_goesOn 80 = .ok (.ldc2_w 129, 3) := by decide +kernel
theorem dX8_goesOn_83 : decode cX8_goesOn 83 = .ok (.invokestatic 131, 3) := by decide +kernel
theorem dX8_goesOn_86 : decode cX8_goesOn 86 = .ok (.ifCond .eq 16, 3) := by decide +kernel
theorem dX8_goesOn_89 : decode cX8_goesOn 89 = .ok (.aload_n 0, 1) := by decide +kernel
theorem dX8_goesOn_90 : decode cX8_goesOn 90 = .ok (.dup, 1) := by decide +kernel
theorem dX8_goesOn_91 : decode cX8_goesOn 91 = .ok (.getfield 114, 3) := by decide +kernel
theorem dX8_goesOn_94 : decode cX8_goesOn 94 = .ok (.iconst 1, 1) := by decide +kernel
theorem dX8_goesOn_95 : decode cX8_goesOn 95 = .ok (.iadd, 1) := by decide +kernel
theorem dX8_goesOn_96 : decode cX8_goesOn 96 = .ok (.putfield 114, 3) := by decide +kernel
theorem dX8_goesOn_99 : decode cX8_goesOn 99 = .ok (.goto (-31), 3) := by decide +kernel
theorem dX8_goesOn_102 : decode cX8_goesOn 102 = .ok (.aload_n 0, 1) := by decide +kernel
theorem dX8_goesOn_103 : decode cX8_goesOn 103 = .ok (.aload_n 0, 1) := by decide +kernel
theorem dX8_goesOn_104 : decode cX8_goesOn 104 = .ok (.getfield 114, 3) := by decide +kernel
theorem dX8_goesOn_107 : decode cX8_goesOn 107 = .ok (.aload_n 0, 1) := by decide +kernel
theorem dX8_goesOn_108 : decode cX8_goesOn 108 = .ok (.getfield 121, 3) := by decide +kernel
theorem dX8_goesOn_111 : decode cX8_goesOn 111 = .ok (.isub, 1) := by decide +kernel
theorem dX8_goesOn_112 : decode cX8_goesOn 112 = .ok (.bipush 6, 2) := by decide +kernel
theorem dX8_goesOn_114 : decode cX8_goesOn 114 = .ok (.if_icmp .le 7, 3) := by decide +kernel
theorem dX8_goesOn_117 : decode cX8_goesOn 117 = .ok (.iconst 1, 1) := by decide +kernel
theorem dX8_goesOn_118 : decode cX8_goesOn 118 = .ok (.goto 4, 3) := by decide +kernel
theorem dX8_goesOn_121 : decode cX8_goesOn 121 = .ok (.iconst 2, 1) := by decide +kernel
theorem dX8_goesOn_122 : decode cX8_goesOn 122 = .ok (.putfield 124, 3) := by decide +kernel
theorem dX8_goesOn_125 : decode cX8_goesOn 125 = .ok (.return_, 1) := by decide +kernel
theorem dX8_goesOn_126 : decode cX8_goesOn 126 = .ok (.iload_n 1, 1) := by decide +kernel
theorem dX8_goesOn_127 : decode cX8_goesOn 127 = .ok (.i2l, 1) := by decide +kernel
theorem dX8_goesOn_128 : decode cX8_goesOn 128 = .ok (.ldc2_w 135, 3) := by decide +kernel
theorem dX8_goesOn_131 : decode cX8_goesOn 131 = .ok (.ldc2_w 137, 3) := by decide +kernel
theorem dX8_goesOn_134 : decode cX8_goesOn 134 = .ok (.invokestatic 131, 3) := by decide +kernel
theorem dX8_goesOn_137 : decode cX8_goesOn 137 = .ok (.ifCond .eq 108, 3) := by decide +kernel
theorem dX8_goesOn_140 : decode cX8_goesOn 140 = .ok (.aload_n 0, 1) := by decide +kernel
theorem dX8_goesOn_141 : decode cX8_goesOn 141 = .ok (.iconst 0, 1) := by decide +kernel
theorem dX8_goesOn_142 : decode cX8_goesOn 142 = .ok (.putfield 139, 3) := by decide +kernel
theorem dX8_goesOn_145 : decode cX8_goesOn 145 = .ok (.aload_n 0, 1) := by decide +kernel
theorem dX8_goesOn_146 : decode cX8_goesOn 146 = .ok (.aload_n 0, 1) := by decide +kernel
theorem dX8_goesOn_147 : decode cX8_goesOn 147 = .ok (.getfield 114, 3) := by decide +kernel
theorem dX8_goesOn_150 : decode cX8_goesOn 150 = .ok (.invokevirtual 117, 3) := by decide +kernel
theorem dX8_goesOn_153 : decode cX8_goesOn 153 = .ok (.i2l, 1) := by decide +kernel
theorem dX8_goesOn_154 : decode cX8_goesOn 154 = .ok (.ldc2_w 135, 3) := by decide +kernel
theorem dX8_goesOn_157 : decode cX8_goesOn 157 = .ok (.ldc2_w 137, 3) := by decide +kernel
theorem dX8_goesOn_160 : decode cX8_goesOn 160 = .ok (.invokestatic 131, 3) := by decide +kernel
theorem dX8_goesOn_163 : decode cX8_goesOn 163 = .ok (.ifCond .eq 59, 3) := by decide +kernel
theorem dX8_goesOn_166 : decode cX8_goesOn 166 = .ok (.aload_n 0, 1) := by decide +kernel
theorem dX8_goesOn_167 : decode cX8_goesOn 167 = .ok (.aload_n 0, 1) := by decide +kernel
theorem dX8_goesOn_168 : decode cX8_goesOn 168 = .ok (.getfield 114, 3) := by decide +kernel
theorem dX8_goesOn_171 : decode cX8_goesOn 171 = .ok (.aload_n 0, 1) := by decide +kernel
theorem dX8_goesOn_172 : decode cX8_goesOn 172 = .ok (.getfield 121, 3) := by decide +kernel
theorem dX8_goesOn_175 : decode cX8_goesOn 175 = .ok (.isub, 1) := by decide +kernel
theorem dX8_goesOn_176 : decode cX8_goesOn 176 = .ok (.iconst 3, 1) := by decide +kernel
theorem dX8_goesOn_177 : decode cX8_goesOn 177 = .ok (.if_icmp .ge 25, 3) := by decide +kernel
theorem dX8_goesOn_180 : decode cX8_goesOn 180 = .ok (.bipush 10, 2) := by decide +kernel
theorem dX8_goesOn_182 : decode cX8_goesOn 182 = .ok (.aload_n 0, 1) := by decide +kernel
theorem dX8_goesOn_183 : decode cX8_goesOn 183 = .ok (.getfield 139, 3) := by decide +kernel
theorem dX8_goesOn_186 : decode cX8_goesOn 186 = .ok (.imul, 1) := by decide +kernel
theorem dX8_goesOn_187 : decode cX8_goesOn 187 = .ok (.aload_n 0, 1) := by decide +kernel
theorem dX8_goesOn_188 : decode cX8_goesOn 188 = .ok (.aload_n 0, 1) := by decide +kernel
theorem dX8_goesOn_189 : decode cX8_goesOn 189 = .ok (.getfield 114, 3) := by decide +kernel
theorem dX8_goesOn_192 : decode cX8_goesOn 192 = .ok (.invokevirtual 117, 3) := by decide +kernel
theorem dX8_goesOn_195 : decode cX8_goesOn 195 = .ok (.iadd, 1) := by decide +kernel
theorem dX8_goesOn_196 : decode cX8_goesOn 196 = .ok (.bipush 48, 2) := by decide +kernel
theorem dX8_goesOn_198 : decode cX8_goesOn 198 = .ok (.isub, 1) := by decide +kernel
theorem dX8_goesOn_199 : decode cX8_goesOn 199 = .ok (.goto 7, 3) := by decide +kernel
theorem dX8_goesOn_202 : decode cX8_goesOn 202 = .ok (.aload_n 0, 1) := by decide +kernel
theorem dX8_goesOn_203 : decode cX8_goesOn 203 = .ok (.getfield 139, 3) := by decide +kernel
theorem dX8_goesOn_206 : decode cX8_goesOn 206 = .ok (.putfield 139, 3) := by decide +kernel
theorem dX8_goesOn_209 : decode cX8_goesOn 209 = .ok (.aload_n 0, 1) := by decide +kernel
theorem dX8_goesOn_210 : decode cX8_goesOn 210 = .ok (.dup, 1) := by decide +kernel
theorem dX8_goesOn_211 : decode cX8_goesOn 211 = .ok (.getfield 114, 3) := by decide +kernel
theorem dX8_goesOn_214 : decode cX8_goesOn 214 = .ok (.iconst 1, 1) := by decide +kernel
theorem dX8_goesOn_215 : decode cX8_goesOn 215 = .ok (.iadd, 1) := by decide +kernel
theorem dX8_goesOn_216 : decode cX8_goesOn 216 = .ok (.putfield 114, 3) := by decide +kernel
theorem dX8_goesOn_219 : decode cX8_goesOn 219 = .ok (.goto (-74), 3) := by decide +kernel
theorem dX8_goesOn_222 : decode cX8_goesOn 222 = .ok (.aload_n 0, 1) := by decide +kernel
theorem dX8_goesOn_223 : decode cX8_goesOn 223 = .ok (.aload_n 0, 1) := by decide +kernel
theorem dX8_goesOn_224 : decode cX8_goesOn 224 = .ok (.getfield 114, 3) := by decide +kernel
theorem dX8_goesOn_227 : decode cX8_goesOn 227 = .ok (.aload_n 0, 1) := by decide +kernel
theorem dX8_goesOn_228 : decode cX8_goesOn 228 = .ok (.getfield 121, 3) := by decide +kernel
theorem dX8_goesOn_231 : decode cX8_goesOn 231 = .ok (.isub, 1) := by decide +kernel
theorem dX8_goesOn_232 : decode cX8_goesOn 232 = .ok (.iconst 3, 1) := by decide +kernel
theorem dX8_goesOn_233 : decode cX8_goesOn 233 = .ok (.if_icmp .le 7, 3) := by decide +kernel
theorem dX8_goesOn_236 : decode cX8_goesOn 236 = .ok (.iconst 1, 1) := by decide +kernel
theorem dX8_goesOn_237 : decode cX8_goesOn 237 = .ok (.goto 4, 3) := by decide +kernel
theorem dX8_goesOn_240 : decode cX8_goesOn 240 = .ok (.iconst 3, 1) := by decide +kernel
theorem dX8_goesOn_241 : decode cX8_goesOn 241 = .ok (.putfield 124, 3) := by decide +kernel
theorem dX8_goesOn_244 : decode cX8_goesOn 244 = .ok (.return_, 1) := by decide +kernel
theorem dX8_goesOn_245 : decode cX8_goesOn 245 = .ok (.aload_n 0, 1) := by decide +kernel
theorem dX8_goesOn_246 : decode cX8_goesOn 246 = .ok (.dup, 1) := by decide +kernel
theorem dX8_goesOn_247 : decode cX8_goesOn 247 = .ok (.getfield 114, 3) := by decide +kernel
theorem dX8_goesOn_250 : decode cX8_goesOn 250 = .ok (.iconst 1, 1) := by decide +kernel
theorem dX8_goesOn_251 : decode cX8_goesOn 251 = .ok (.iadd, 1) := by decide +kernel
theorem dX8_goesOn_252 : decode cX8_goesOn 252 = .ok (.putfield 114, 3) := by decide +kernel
theorem dX8_goesOn_255 : decode cX8_goesOn 255 = .ok (.aload_n 0, 1) := by decide +kernel
theorem dX8_goesOn_256 : decode cX8_goesOn 256 = .ok (.iload_n 1, 1) := by decide +kernel
theorem dX8_goesOn_257 : decode cX8_goesOn 257 = .ok (.bipush 59, 2) := by decide +kernel
theorem dX8_goesOn_259 : decode cX8_goesOn 259 = .ok (.if_icmp .eq 9, 3) := by decide +kernel
theorem dX8_goesOn_262 : decode cX8_goesOn 262 = .ok (.iload_n 1, 1) := by decide +kernel
theorem dX8_goesOn_263 : decode cX8_goesOn 263 = .ok (.bipush 44, 2) := by decide +kernel
theorem dX8_goesOn_265 : decode cX8_goesOn 265 = .ok (.if_icmp .ne 7, 3) := by decide +kernel
theorem dX8_goesOn_268 : decode cX8_goesOn 268 = .ok (.iload_n 1, 1) := by decide +kernel
theorem dX8_goesOn_269 : decode cX8_goesOn 269 = .ok (.goto 4, 3) := by decide +kernel
theorem dX8_goesOn_272 : decode cX8_goesOn 272 = .ok (.iconst 1, 1) := by decide +kernel
theorem dX8_goesOn_273 : decode cX8_goesOn 273 = .ok (.putfield 124, 3) := by decide +kernel
theorem dX8_goesOn_276 : decode cX8_goesOn 276 = .ok (.return_, 1) := by decide +kernel
theorem dX8_isWord_0 : decode cX8_isWord 0 = .ok (.aload_n 0, 1) := by decide +kernel
theorem dX8_isWord_1 : decode cX8_isWord 1 = .ok (.getfield 124, 3) := by decide +kernel
theorem dX8_isWord_4 : decode cX8_isWord 4 = .ok (.iconst 2, 1) := by decide +kernel
theorem dX8_isWord_5 : decode cX8_isWord 5 = .ok (.if_icmp .ne 19, 3) := by decide +kernel
theorem dX8_isWord_8 : decode cX8_isWord 8 = .ok (.aload_n 0, 1) := by decide +kernel
theorem dX8_isWord_9 : decode cX8_isWord 9 = .ok (.getfield 114, 3) := by decide +kernel
theorem dX8_isWord_12 : decode cX8_isWord 12 = .ok (.aload_n 0, 1) := by decide +kernel
theorem dX8_isWord_13 : decode cX8_isWord 13 = .ok (.getfield 121, 3) := by decide +kernel
theorem dX8_isWord_16 : decode cX8_isWord 16 = .ok (.isub, 1) := by decide +kernel
theorem dX8_isWord_17 : decode cX8_isWord 17 = .ok (.aload_n 1, 1) := by decide +kernel
theorem dX8_isWord_18 : decode cX8_isWord 18 = .ok (.invokevirtual 142, 3) := by decide +kernel
theorem dX8_isWord_21 : decode cX8_isWord 21 = .ok (.if_icmp .eq 5, 3) := by decide +kernel
theorem dX8_isWord_24 : decode cX8_isWord 24 = .ok (.iconst 0, 1) := by decide +kernel
theorem dX8_isWord_25 : decode cX8_isWord 25 = .ok (.ireturn, 1) := by decide +kernel
theorem dX8_isWord_26 : decode cX8_isWord 26 = .ok (.iconst 0, 1) := by decide +kernel
theorem dX8_isWord_27 : decode cX8_isWord 27 = .ok (.istore_n 2, 1) := by decide +kernel
theorem dX8_isWord_28 : decode cX8_isWord 28 = .ok (.iload_n 2, 1) := by decide +kernel
theorem dX8_isWord_29 : decode cX8_isWord 29 = .ok (.aload_n 1, 1) := by decide +kernel
theorem dX8_isWord_30 : decode cX8_isWord 30 = .ok (.invokevirtual 142, 3) := by decide +kernel
theorem dX8_isWord_33 : decode cX8_isWord 33 = .ok (.if_icmp .ge 30, 3) := by decide +kernel
theorem dX8_isWord_36 : decode cX8_isWord 36 = .ok (.aload_n 0, 1) := by decide +kernel
theorem dX8_isWord_37 : decode cX8_isWord 37 = .ok (.getfield 15, 3) := by decide +kernel
theorem dX8_isWord_40 : decode cX8_isWord 40 = .ok (.aload_n 0, 1) := by decide +kernel
theorem dX8_isWord_41 : decode cX8_isWord 41 = .ok (.getfield 121, 3) := by decide +kernel
theorem dX8_isWord_44 : decode cX8_isWord 44 = .ok (.iload_n 2, 1) := by decide +kernel
theorem dX8_isWord_45 : decode cX8_isWord 45 = .ok (.iadd, 1) := by decide +kernel
theorem dX8_isWord_46 : decode cX8_isWord 46 = .ok (.iaload, 1) := by decide +kernel
theorem dX8_isWord_47 : decode cX8_isWord 47 = .ok (.aload_n 1, 1) := by decide +kernel
theorem dX8_isWord_48 : decode cX8_isWord 48 = .ok (.iload_n 2, 1) := by decide +kernel
theorem dX8_isWord_49 : decode cX8_isWord 49 = .ok (.invokevirtual 148, 3) := by decide +kernel
theorem dX8_isWord_52 : decode cX8_isWord 52 = .ok (.if_icmp .eq 5, 3) := by decide +kernel
theorem dX8_isWord_55 : decode cX8_isWord 55 = .ok (.iconst 0, 1) := by decide +kernel
theorem dX8_isWord_56 : decode cX8_isWord 56 = .ok (.ireturn, 1) := by decide +kernel
theorem dX8_isWord_57 : decode cX8_isWord 57 = .ok (.iinc 2 1, 3) := by decide +kernel
theorem dX8_isWord_60 : decode cX8_isWord 60 = .ok (.goto (-32), 3) := by decide +kernel
theorem dX8_isWord_63 : decode cX8_isWord 63 = .ok (.iconst 1, 1) := by decide +kernel
theorem dX8_isWord_64 : decode cX8_isWord 64 = .ok (.ireturn, 1) := by decide +kernel
theorem dX8_errs_0 : decode cX8_errs 0 = .ok (.aload_n 0, 1) := by decide +kernel
theorem dX8_errs_1 : decode cX8_errs 1 = .ok (.iload_n 1, 1) := by decide +kernel
theorem dX8_errs_2 : decode cX8_errs 2 = .ok (.putfield 152, 3) := by decide +kernel
theorem dX8_errs_5 : decode cX8_errs 5 = .ok (.aload_n 0, 1) := by decide +kernel
theorem dX8_errs_6 : decode cX8_errs 6 = .ok (.aload_n 0, 1) := by decide +kernel
theorem dX8_errs_7 : decode cX8_errs 7 = .ok (.getfield 121, 3) := by decide +kernel
theorem dX8_errs_10 : decode cX8_errs 10 = .ok (.putfield 155, 3) := by decide +kernel
theorem dX8_errs_13 : decode cX8_errs 13 = .ok (.iconst 0, 1) := by decide +kernel
theorem dX8_errs_14 : decode cX8_errs 14 = .ok (.ireturn, 1) := by decide +kernel
theorem dX8_isName_0 : decode cX8_isName 0 = .ok (.aload_n 0, 1) := by decide +kernel
theorem dX8_isName_1 : decode cX8_isName 1 = .ok (.getfield 124, 3) := by decide +kernel
theorem dX8_isName_4 : decode cX8_isName 4 = .ok (.iconst 2, 1) := by decide +kernel
theorem dX8_isName_5 : decode cX8_isName 5 = .ok (.if_icmp .ne 61, 3) := by decide +kernel
theorem dX8_isName_8 : decode cX8_isName 8 = .ok (.aload_n 0, 1) := by decide +kernel
theorem dX8_isName_9 : decode cX8_isName 9 = .ok (.ldc 158, 2) := by decide +kernel
theorem dX8_isName_11 : decode cX8_isName 11 = .ok (.invokevirtual 160, 3) := by decide +kernel
theorem dX8_isName_14 : decode cX8_isName 14 = .ok (.ifCond .ne 52, 3) := by decide +kernel
theorem dX8_isName_17 : decode cX8_isName 17 = .ok (.aload_n 0, 1) := by decide +kernel
theorem dX8_isName_18 : decode cX8_isName 18 = .ok (.ldc 164, 2) := by decide +kernel
theorem dX8_isName_20 : decode cX8_isName 20 = .ok (.invokevirtual 160, 3) := by decide +kernel
theorem dX8_isName_23 : decode cX8_isName 23 = .ok (.ifCond .ne 43, 3) := by decide +kernel
theorem dX8_isName_26 : decode cX8_isName 26 = .ok (.aload_n 0, 1) := by decide +kernel
theorem dX8_isName_27 : decode cX8_isName 27 = .ok (.ldc 166, 2) := by decide +kernel
theorem dX8_isName_29 : decode cX8_isName 29 = .ok (.invokevirtual 160, 3) := by decide +kernel
theorem dX8_isName_32 : decode cX8_isName 32 = .ok (.ifCond .ne 34, 3) := by decide +kernel
theorem dX8_isName_35 : decode cX8_isName 35 = .ok (.aload_n 0, 1) := by decide +kernel
theorem dX8_isName_36 : decode cX8_isName 36 = .ok (.ldc 168, 2) := by decide +kernel
theorem dX8_isName_38 : decode cX8_isName 38 = .ok (.invokevirtual 160, 3) := by decide +kernel
theorem dX8_isName_41 : decode cX8_isName 41 = .ok (.ifCond .ne 25, 3) := by decide +kernel
theorem dX8_isName_44 : decode cX8_isName 44 = .ok (.aload_n 0, 1) := by decide +kernel
theorem dX8_isName_45 : decode cX8_isName 45 = .ok (.ldc 170, 2) := by decide +kernel
theorem dX8_isName_47 : decode cX8_isName 47 = .ok (.invokevirtual 160, 3) := by decide +kernel
theorem dX8_isName_50 : decode cX8_isName 50 = .ok (.ifCond .ne 16, 3) := by decide +kernel
theorem dX8_isName_53 : decode cX8_isName 53 = .ok (.aload_n 0, 1) := by decide +kernel
theorem dX8_isName_54 : decode cX8_isName 54 = .ok (.ldc 172, 2) := by decide +kernel
theorem dX8_isName_56 : decode cX8_isName 56 = .ok (.invokevirtual 160, 3) := by decide +kernel
theorem dX8_isName_59 : decode cX8_isName 59 = .ok (.ifCond .ne 7, 3) := by decide +kernel
theorem dX8_isName_62 : decode cX8_isName 62 = .ok (.iconst 1, 1) := by decide +kernel
theorem dX8_isName_63 : decode cX8_isName 63 = .ok (.goto 4, 3) := by decide +kernel
theorem dX8_isName_66 : decode cX8_isName 66 = .ok (.iconst 0, 1) := by decide +kernel
theorem dX8_isName_67 : decode cX8_isName 67 = .ok (.ireturn, 1) := by decide +kernel
theorem dX8_isAt_0 : decode cX8_isAt 0 = .ok (.iload_n 3, 1) := by decide +kernel
theorem dX8_isAt_1 : decode cX8_isAt 1 = .ok (.iload_n 2, 1) := by decide +kernel
theorem dX8_isAt_2 : decode cX8_isAt 2 = .ok (.isub, 1) := by decide +kernel
theorem dX8_isAt_3 : decode cX8_isAt 3 = .ok (.bipush 6, 2) := by decide +kernel
theorem dX8_isAt_5 : decode cX8_isAt 5 = .ok (.if_icmp .gt 7, 3) := by decide +kernel
theorem dX8_isAt_8 : decode cX8_isAt 8 = .ok (.iconst 1, 1) := by decide +kernel
theorem dX8_isAt_9 : decode cX8_isAt 9 = .ok (.goto 4, 3) := by decide +kernel
theorem dX8_isAt_12 : decode cX8_isAt 12 = .ok (.iconst 0, 1) := by decide +kernel
theorem dX8_isAt_13 : decode cX8_isAt 13 = .ok (.istore 4, 2) := by decide +kernel
theorem dX8_isAt_15 : decode cX8_isAt 15 = .ok (.iconst 0, 1) := by decide +kernel
theorem dX8_isAt_16 : decode cX8_isAt 16 = .ok (.istore 5, 2) := by decide +kernel
theorem dX8_isAt_18 : decode cX8_isAt 18 = .ok (.iload 5, 2) := by decide +kernel
theorem dX8_isAt_20 : decode cX8_isAt 20 = .ok (.bipush 6, 2) := by decide +kernel
theorem dX8_isAt_22 : decode cX8_isAt 22 = .ok (.if_icmp .ge 74, 3) := by decide +kernel
theorem dX8_isAt_25 : decode cX8_isAt 25 = .ok (.iload 4, 2) := by decide +kernel
theorem dX8_isAt_27 : decode cX8_isAt 27 = .ok (.ifCond .eq 60, 3) := by decide +kernel
theorem dX8_isAt_30 : decode cX8_isAt 30 = .ok (.aload_n 0, 1) := by decide +kernel
theorem dX8_isAt_31 : decode cX8_isAt 31 = .ok (.getfield 25, 3) := by decide +kernel
theorem dX8_isAt_34 : decode cX8_isAt 34 = .ok (.iload_n 1, 1) := by decide +kernel
theorem dX8_isAt_35 : decode cX8_isAt 35 = .ok (.iload 5, 2) := by decide +kernel
theorem dX8_isAt_37 : decode cX8_isAt 37 = .ok (.iadd, 1) := by decide +kernel
theorem dX8_isAt_38 : decode cX8_isAt 38 = .ok (.iaload, 1) := by decide +kernel
theorem dX8_isAt_39 : decode cX8_isAt 39 = .ok (.iload_n 2, 1) := by decide +kernel
theorem dX8_isAt_40 : decode cX8_isAt 40 = .ok (.iload 5, 2) := by decide +kernel
theorem dX8_isAt_42 : decode cX8_isAt 42 = .ok (.iadd, 1) := by decide +kernel
theorem dX8_isAt_43 : decode cX8_isAt 43 = .ok (.iload_n 3, 1) := by decide +kernel
theorem dX8_isAt_44 : decode cX8_isAt 44 = .ok (.if_icmp .ge 15, 3) := by decide +kernel
theorem dX8_isAt_47 : decode cX8_isAt 47 = .ok (.aload_n 0, 1) := by decide +kernel
theorem dX8_isAt_48 : decode cX8_isAt 48 = .ok (.getfield 15, 3) := by decide +kernel
theorem dX8_isAt_51 : decode cX8_isAt 51 = .ok (.iload_n 2, 1) := by decide +kernel
theorem dX8_isAt_52 : decode cX8_isAt 52 = .ok (.iload 5, 2) := by decide +kernel
theorem dX8_isAt_54 : decode cX8_isAt 54 = .ok (.iadd, 1) := by decide +kernel
theorem dX8_isAt_55 : decode cX8_isAt 55 = .ok (.iaload, 1) := by decide +kernel
theorem dX8_isAt_56 : decode cX8_isAt 56 = .ok (.goto 4, 3) := by decide +kernel
theorem dX8_isAt_59 : decode cX8_isAt 59 = .ok (.iconst 0, 1) := by decide +kernel
theorem dX8_isAt_60 : decode cX8_isAt 60 = .ok (.if_icmp .ne 27, 3) := by decide +kernel
theorem dX8_isAt_63 : decode cX8_isAt 63 = .ok (.iload_n 2, 1) := by decide +kernel
theorem dX8_isAt_64 : decode cX8_isAt 64 = .ok (.iload 5, 2) := by decide +kernel
theorem dX8_isAt_66 : decode cX8_isAt 66 = .ok (.iadd, 1) := by decide +kernel
theorem dX8_isAt_67 : decode cX8_isAt 67 = .ok (.iload_n 3, 1) := by decide +kernel
theorem dX8_isAt_68 : decode cX8_isAt 68 = .ok (.if_icmp .ge 15, 3) := by decide +kernel
theorem dX8_isAt_71 : decode cX8_isAt 71 = .ok (.aload_n 0, 1) := by decide +kernel
theorem dX8_isAt_72 : decode cX8_isAt 72 = .ok (.getfield 15, 3) := by decide +kernel
theorem dX8_isAt_75 : decode cX8_isAt 75 = .ok (.iload_n 2, 1) := by decide +kernel
theorem dX8_isAt_76 : decode cX8_isAt 76 = .ok (.iload 5, 2) := by decide +kernel
theorem dX8_isAt_78 : decode cX8_isAt 78 = .ok (.iadd, 1) := by decide +kernel
theorem dX8_isAt_79 : decode cX8_isAt 79 = .ok (.iaload, 1) := by decide +kernel
theorem dX8_isAt_80 : decode cX8_isAt 80 = .ok (.ifCond .eq 7, 3) := by decide +kernel
theorem dX8_isAt_83 : decode cX8_isAt 83 = .ok (.iconst 1, 1) := by decide +kernel
theorem dX8_isAt_84 : decode cX8_isAt 84 = .ok (.goto 4, 3) := by decide +kernel
theorem dX8_isAt_87 : decode cX8_isAt 87 = .ok (.iconst 0, 1) := by decide +kernel
theorem dX8_isAt_88 : decode cX8_isAt 88 = .ok (.istore 4, 2) := by decide +kernel
theorem dX8_isAt_90 : decode cX8_isAt 90 = .ok (.iinc 5 1, 3) := by decide +kernel
theorem dX8_isAt_93 : decode cX8_isAt 93 = .ok (.goto (-75), 3) := by decide +kernel
theorem dX8_isAt_96 : decode cX8_isAt 96 = .ok (.iload 4, 2) := by decide +kernel
theorem dX8_isAt_98 : decode cX8_isAt 98 = .ok (.ireturn, 1) := by decide +kernel
theorem dX8_jointHere_0 : decode cX8_jointHere 0 = .ok (.iconst 0, 1) := by decide +kernel
theorem dX8_jointHere_1 : decode cX8_jointHere 1 = .ok (.istore_n 1, 1) := by decide +kernel
theorem dX8_jointHere_2 : decode cX8_jointHere 2 = .ok (.iload_n 1, 1) := by decide +kernel
theorem dX8_jointHere_3 : decode cX8_jointHere 3 = .ok (.aload_n 0, 1) := by decide +kernel
theorem dX8_jointHere_4 : decode cX8_jointHere 4 = .ok (.getfield 174, 3) := by decide +kernel
theorem dX8_jointHere_7 : decode cX8_jointHere 7 = .ok (.if_icmp .ge 33, 3) := by decide +kernel
theorem dX8_jointHere_10 : decode cX8_jointHere 10 = .ok (.aload_n 0, 1) := by decide +kernel
theorem dX8_jointHere_11 : decode cX8_jointHere 11 = .ok (.bipush 6, 2) := by decide +kernel
theorem dX8_jointHere_13 : decode cX8_jointHere 13 = .ok (.bipush 9, 2) := by decide +kernel
theorem dX8_jointHere_15 : decode cX8_jointHere 15 = .ok (.iload_n 1, 1) := by decide +kernel
theorem dX8_jointHere_16 : decode cX8_jointHere 16 = .ok (.iadd, 1) := by decide +kernel
theorem dX8_jointHere_17 : decode cX8_jointHere 17 = .ok (.imul, 1) := by decide +kernel
theorem dX8_jointHere_18 : decode cX8_jointHere 18 = .ok (.aload_n 0, 1) := by decide +kernel
theorem dX8_jointHere_19 : decode cX8_jointHere 19 = .ok (.getfield 121, 3) := by decide +kernel
theorem dX8_jointHere_22 : decode cX8_jointHere 22 = .ok (.aload_n 0, 1) := by decide +kernel
theorem dX8_jointHere_23 : decode cX8_jointHere 23 = .ok (.getfield 114, 3) := by decide +kernel
theorem dX8_jointHere_26 : decode cX8_jointHere 26 = .ok (.invokevirtual 177, 3) := by decide +kernel
theorem dX8_jointHere_29 : decode cX8_jointHere 29 = .ok (.ifCond .eq 5, 3) := by decide +kernel
theorem dX8_jointHere_32 : decode cX8_jointHere 32 = .ok (.iload_n 1, 1) := by decide +kernel
theorem dX8_jointHere_33 : decode cX8_jointHere 33 = .ok (.ireturn, 1) := by decide +kernel
theorem dX8_jointHere_34 : decode cX8_jointHere 34 = .ok (.iinc 1 1, 3) := by decide +kernel
theorem dX8_jointHere_37 : decode cX8_jointHere 37 = .ok (.goto (-35), 3) := by decide +kernel
theorem dX8_jointHere_40 : decode cX8_jointHere 40 = .ok (.iconst (-1), 1) := by decide +kernel
theorem dX8_jointHere_41 : decode cX8_jointHere 41 = .ok (.ireturn, 1) := by decide +kernel
theorem dX8_takesWhole_0 : decode cX8_takesWhole 0 = .ok (.aload_n 0, 1) := by decide +kernel
theorem dX8_takesWhole_1 : decode cX8_takesWhole 1 = .ok (.getfield 124, 3) := by decide +kernel
theorem dX8_takesWhole_4 : decode cX8_takesWhole 4 = .ok (.iconst 3, 1) := by decide +kernel
theorem dX8_takesWhole_5 : decode cX8_takesWhole 5 = .ok (.if_icmp .eq 9, 3) := by decide +kernel
theorem dX8_takesWhole_8 : decode cX8_takesWhole 8 = .ok (.aload_n 0, 1) := by decide +kernel
theorem dX8_takesWhole_9 : decode cX8_takesWhole 9 = .ok (.iconst 1, 1) := by decide +kernel
theorem dX8_takesWhole_10 : decode cX8_takesWhole 10 = .ok (.invokevirtual 181, 3) := by decide +kernel
theorem dX8_takesWhole_13 : decode cX8_takesWhole 13 = .ok (.ireturn, 1) := by decide +kernel
theorem dX8_takesWhole_14 : decode cX8_takesWhole 14 = .ok (.aload_n 0, 1) := by decide +kernel
theorem dX8_takesWhole_15 : decode cX8_takesWhole 15 = .ok (.getfield 139, 3) := by decide +kernel
theorem dX8_takesWhole_18 : decode cX8_takesWhole 18 = .ok (.i2l, 1) := by decide +kernel
theorem dX8_takesWhole_19 : decode cX8_takesWhole 19 = .ok (.iload_n 1, 1) := by decide +kernel
theorem dX8_takesWhole_20 : decode cX8_takesWhole 20 = .ok (.i2l, 1) := by decide +kernel
theorem dX8_takesWhole_21 : decode cX8_takesWhole 21 = .ok (.iload_n 2, 1) := by decide +kernel
theorem dX8_takesWhole_22 : decode cX8_takesWhole 22 = .ok (.i2l, 1) := by decide +kernel
theorem dX8_takesWhole_23 : decode cX8_takesWhole 23 = .ok (.invokestatic 131, 3) := by decide +kernel
theorem dX8_takesWhole_26 : decode cX8_takesWhole 26 = .ok (.ifCond .ne 9, 3) := by decide +kernel
theorem dX8_takesWhole_29 : decode cX8_takesWhole 29 = .ok (.aload_n 0, 1) := by decide +kernel
theorem dX8_takesWhole_30 : decode cX8_takesWhole 30 = .ok (.iconst 2, 1) := by decide +kernel
theorem dX8_takesWhole_31 : decode cX8_takesWhole 31 = .ok (.invokevirtual 181, 3) := by decide +kernel
theorem dX8_takesWhole_34 : decode cX8_takesWhole 34 = .ok (.ireturn, 1) := by decide +kernel
theorem dX8_takesWhole_35 : decode cX8_takesWhole 35 = .ok (.aload_n 0, 1) := by decide +kernel
theorem dX8_takesWhole_36 : decode cX8_takesWhole 36 = .ok (.aload_n 0, 1) := by decide +kernel
theorem dX8_takesWhole_37 : decode cX8_takesWhole 37 = .ok (.getfield 139, 3) := by decide +kernel
theorem dX8_takesWhole_40 : decode cX8_takesWhole 40 = .ok (.putfield 185, 3) := by decide +kernel
theorem dX8_takesWhole_43 : decode cX8_takesWhole 43 = .ok (.aload_n 0, 1) := by decide +kernel
theorem dX8_takesWhole_44 : decode cX8_takesWhole 44 = .ok (.invokevirtual 188, 3) := by decide +kernel
theorem dX8_takesWhole_47 : decode cX8_takesWhole 47 = .ok (.iconst 1, 1) := by decide +kernel
theorem dX8_takesWhole_48 : decode cX8_takesWhole 48 = .ok (.ireturn, 1) := by decide +kernel
theorem dX8_takesNew_0 : decode cX8_takesNew 0 = .ok (.aload_n 0, 1) := by decide +kernel
theorem dX8_takesNew_1 : decode cX8_takesNew 1 = .ok (.invokevirtual 188, 3) := by decide +kernel
theorem dX8_takesNew_4 : decode cX8_takesNew 4 = .ok (.aload_n 0, 1) := by decide +kernel
theorem dX8_takesNew_5 : decode cX8_takesNew 5 = .ok (.invokevirtual 191, 3) := by decide +kernel
theorem dX8_takesNew_8 : decode cX8_takesNew 8 = .ok (.ifCond .ne 9, 3) := by decide +kernel
theorem dX8_takesNew_11 : decode cX8_takesNew 11 = .ok (.aload_n 0, 1) := by decide +kernel
theorem dX8_takesNew_12 : decode cX8_takesNew 12 = .ok (.iconst 1, 1) := by decide +kernel
theorem dX8_takesNew_13 : decode cX8_takesNew 13 = .ok (.invokevirtual 181, 3) := by decide +kernel
theorem dX8_takesNew_16 : decode cX8_takesNew 16 = .ok (.ireturn, 1) := by decide +kernel
theorem dX8_takesNew_17 : decode cX8_takesNew 17 = .ok (.aload_n 0, 1) := by decide +kernel
theorem dX8_takesNew_18 : decode cX8_takesNew 18 = .ok (.invokevirtual 195, 3) := by decide +kernel
theorem dX8_takesNew_21 : decode cX8_takesNew 21 = .ok (.iconst (-1), 1) := by decide +kernel
theorem dX8_takesNew_22 : decode cX8_takesNew 22 = .ok (.if_icmp .eq 9, 3) := by decide +kernel
theorem dX8_takesNew_25 : decode cX8_takesNew 25 = .ok (.aload_n 0, 1) := by decide +kernel
theorem dX8_takesNew_26 : decode cX8_takesNew 26 = .ok (.iconst 3, 1) := by decide +kernel
theorem dX8_takesNew_27 : decode cX8_takesNew 27 = .ok (.invokevirtual 181, 3) := by decide +kernel
theorem dX8_takesNew_30 : decode cX8_takesNew 30 = .ok (.ireturn, 1) := by decide +kernel
theorem dX8_takesNew_31 : decode cX8_takesNew 31 = .ok (.iconst 0, 1) := by decide +kernel
theorem dX8_takesNew_32 : decode cX8_takesNew 32 = .ok (.istore_n 1, 1) := by decide +kernel
theorem dX8_takesNew_33 : decode cX8_takesNew 33 = .ok (.iload_n 1, 1) := by decide +kernel
theorem dX8_takesNew_34 : decode cX8_takesNew 34 = .ok (.bipush 6, 2) := by decide +kernel
theorem dX8_takesNew_36 : decode cX8_takesNew 36 = .ok (.if_icmp .ge 54, 3) := by decide +kernel
theorem dX8_takesNew_39 : decode cX8_takesNew 39 = .ok (.aload_n 0, 1) := by decide +kernel
theorem dX8_takesNew_40 : decode cX8_takesNew 40 = .ok (.getfield 25, 3) := by decide +kernel
theorem dX8_takesNew_43 : decode cX8_takesNew 43 = .ok (.bipush 6, 2) := by decide +kernel
theorem dX8_takesNew_45 : decode cX8_takesNew 45 = .ok (.bipush 9, 2) := by decide +kernel
theorem dX8_takesNew_47 : decode cX8_takesNew 47 = .ok (.aload_n 0, 1) := by decide +kernel
theorem dX8_takesNew_48 : decode cX8_takesNew 48 = .ok (.getfield 174, 3) := by decide +kernel
theorem dX8_takesNew_51 : decode cX8_takesNew 51 = .ok (.iadd, 1) := by decide +kernel
theorem dX8_takesNew_52 : decode cX8_takesNew 52 = .ok (.imul, 1) := by decide +kernel
theorem dX8_takesNew_53 : decode cX8_takesNew 53 = .ok (.iload_n 1, 1) := by decide +kernel
theorem dX8_takesNew_54 : decode cX8_takesNew 54 = .ok (.iadd, 1) := by decide +kernel
theorem dX8_takesNew_55 : decode cX8_takesNew 55 = .ok (.aload_n 0, 1) := by decide +kernel
theorem dX8_takesNew_56 : decode cX8_takesNew 56 = .ok (.getfield 121, 3) := by decide +kernel
theorem dX8_takesNew_59 : decode cX8_takesNew 59 = .ok (.iload_n 1, 1) := by decide +kernel
theorem dX8_takesNew_60 : decode cX8_takesNew 60 = .ok (.iadd, 1) := by decide +kernel
theorem dX8_takesNew_61 : decode cX8_takesNew 61 = .ok (.aload_n 0, 1) := by decide +kernel
theorem dX8_takesNew_62 : decode cX8_takesNew 62 = .ok (.getfield 114, 3) := by decide +kernel
theorem dX8_takesNew_65 : decode cX8_takesNew 65 = .ok (.if_icmp .ge 17, 3) := by decide +kernel
theorem dX8_takesNew_68 : decode cX8_takesNew 68 = .ok (.aload_n 0, 1) := by decide +kernel
theorem dX8_takesNew_69 : decode cX8_takesNew 69 = .ok (.getfield 15, 3) := by decide +kernel
theorem dX8_takesNew_72 : decode cX8_takesNew 72 = .ok (.aload_n 0, 1) := by decide +kernel
theorem dX8_takesNew_73 : decode cX8_takesNew 73 = .ok (.getfield 121, 3) := by decide +kernel
theorem dX8_takesNew_76 : decode cX8_takesNew 76 = .ok (.iload_n 1, 1) := by decide +kernel
theorem dX8_takesNew_77 : decode cX8_takesNew 77 = .ok (.iadd, 1) := by decide +kernel
theorem dX8_takesNew_78 : decode cX8_takesNew 78 = .ok (.iaload, 1) := by decide +kernel
theorem dX8_takesNew_79 : decode cX8_takesNew 79 = .ok (.goto 4, 3) := by decide +kernel
theorem dX8_takesNew_82 : decode cX8_takesNew 82 = .ok (.iconst 0, 1) := by decide +kernel
theorem dX8_takesNew_83 : decode cX8_takesNew 83 = .ok (.iastore, 1) := by decide +kernel
theorem dX8_takesNew_84 : decode cX8_takesNew 84 = .ok (.iinc 1 1, 3) := by decide +kernel
theorem dX8_takesNew_87 : decode cX8_takesNew 87 = .ok (.goto (-54), 3) := by decide +kernel
theorem dX8_takesNew_90 : decode cX8_takesNew 90 = .ok (.aload_n 0, 1) := by decide +kernel
theorem dX8_takesNew_91 : decode cX8_takesNew 91 = .ok (.invokevirtual 188, 3) := by decide +kernel
theorem dX8_takesNew_94 : decode cX8_takesNew 94 = .ok (.iconst 1, 1) := by decide +kernel
theorem dX8_takesNew_95 : decode cX8_takesNew 95 = .ok (.ireturn, 1) := by decide +kernel
theorem dX8_readWell_0 : decode cX8_readWell 0 = .ok (.aload_n 0, 1) := by decide +kernel
theorem dX8_readWell_1 : decode cX8_readWell 1 = .ok (.ldc 158, 2) := by decide +kernel
theorem dX8_readWell_3 : decode cX8_readWell 3 = .ok (.invokevirtual 160, 3) := by decide +kernel
theorem dX8_readWell_6 : decode cX8_readWell 6 = .ok (.ifCond .ne 9, 3) := by decide +kernel
theorem dX8_readWell_9 : decode cX8_readWell 9 = .ok (.aload_n 0, 1) := by decide +kernel
theorem dX8_readWell_10 : decode cX8_readWell 10 = .ok (.iconst 1, 1) := by decide +kernel
theorem dX8_readWell_11 : decode cX8_readWell 11 = .ok (.invokevirtual 181, 3) := by decide +kernel
theorem dX8_readWell_14 : decode cX8_readWell 14 = .ok (.ireturn, 1) := by decide +kernel
theorem dX8_readWell_15 : decode cX8_readWell 15 = .ok (.aload_n 0, 1) := by decide +kernel
theorem dX8_readWell_16 : decode cX8_readWell 16 = .ok (.invokevirtual 198, 3) := by decide +kernel
theorem dX8_readWell_19 : decode cX8_readWell 19 = .ok (.ifCond .eq 14, 3) := by decide +kernel
theorem dX8_readWell_22 : decode cX8_readWell 22 = .ok (.aload_n 0, 1) := by decide +kernel
theorem dX8_readWell_23 : decode cX8_readWell 23 = .ok (.iconst 0, 1) := by decide +kernel
theorem dX8_readWell_24 : decode cX8_readWell 24 = .ok (.sipush 999, 3) := by decide +kernel
theorem dX8_readWell_27 : decode cX8_readWell 27 = .ok (.invokevirtual 201, 3) := by decide +kernel
theorem dX8_readWell_30 : decode cX8_readWell 30 = .ok (.ifCond .ne 5, 3) := by decide +kernel
theorem dX8_readWell_33 : decode cX8_readWell 33 = .ok (.iconst 0, 1) := by decide +kernel
theorem dX8_readWell_34 : decode cX8_readWell 34 = .ok (.ireturn, 1) := by decide +kernel
theorem dX8_readWell_35 : decode cX8_readWell 35 = .ok (.aload_n 0, 1) := by decide +kernel
theorem dX8_readWell_36 : decode cX8_readWell 36 = .ok (.getfield 19, 3) := by decide +kernel
theorem dX8_readWell_39 : decode cX8_readWell 39 = .ok (.bipush 9, 2) := by decide +kernel
theorem dX8_readWell_41 : decode cX8_readWell 41 = .ok (.aload_n 0, 1) := by decide +kernel
theorem dX8_readWell_42 : decode cX8_readWell 42 = .ok (.getfield 185, 3) := by decide +kernel
theorem dX8_readWell_45 : decode cX8_readWell 45 = .ok (.iastore, 1) := by decide +kernel
theorem dX8_readWell_46 : decode cX8_readWell 46 = .ok (.aload_n 0, 1) := by decide +kernel
theorem dX8_readWell_47 : decode cX8_readWell 47 = .ok (.getfield 22, 3) := by decide +kernel
theorem dX8_readWell_50 : decode cX8_readWell 50 = .ok (.bipush 9, 2) := by decide +kernel
theorem dX8_readWell_52 : decode cX8_readWell 52 = .ok (.iconst 0, 1) := by decide +kernel
theorem dX8_readWell_53 : decode cX8_readWell 53 = .ok (.iastore, 1) := by decide +kernel
theorem dX8_readWell_54 : decode cX8_readWell 54 = .ok (.aload_n 0, 1) := by decide +kernel
theorem dX8_readWell_55 : decode cX8_readWell 55 = .ok (.iconst 1, 1) := by decide +kernel
theorem dX8_readWell_56 : decode cX8_readWell 56 = .ok (.putfield 174, 3) := by decide +kernel
theorem dX8_readWell_59 : decode cX8_readWell 59 = .ok (.iconst 1, 1) := by decide +kernel
theorem dX8_readWell_60 : decode cX8_readWell 60 = .ok (.ireturn, 1) := by decide +kernel
theorem dX8_readJoint_0 : decode cX8_readJoint 0 = .ok (.aload_n 0, 1) := by decide +kernel
theorem dX8_readJoint_1 : decode cX8_readJoint 1 = .ok (.getfield 174, 3) := by decide +kernel
theorem dX8_readJoint_4 : decode cX8_readJoint 4 = .ok (.bipush 9, 2) := by decide +kernel
theorem dX8_readJoint_6 : decode cX8_readJoint 6 = .ok (.if_icmp .ne 9, 3) := by decide +kernel
theorem dX8_readJoint_9 : decode cX8_readJoint 9 = .ok (.aload_n 0, 1) := by decide +kernel
theorem dX8_readJoint_10 : decode cX8_readJoint 10 = .ok (.iconst 4, 1) := by decide +kernel
theorem dX8_readJoint_11 : decode cX8_readJoint 11 = .ok (.invokevirtual 181, 3) := by decide +kernel
theorem dX8_readJoint_14 : decode cX8_readJoint 14 = .ok (.ireturn, 1) := by decide +kernel
theorem dX8_readJoint_15 : decode cX8_readJoint 15 = .ok (.aload_n 0, 1) := by decide +kernel
theorem dX8_readJoint_16 : decode cX8_readJoint 16 = .ok (.invokevirtual 198, 3) := by decide +kernel
theorem dX8_readJoint_19 : decode cX8_readJoint 19 = .ok (.ifCond .eq 13, 3) := by decide +kernel
theorem dX8_readJoint_22 : decode cX8_readJoint 22 = .ok (.aload_n 0, 1) := by decide +kernel
theorem dX8_readJoint_23 : decode cX8_readJoint 23 = .ok (.iconst 0, 1) := by decide +kernel
theorem dX8_readJoint_24 : decode cX8_readJoint 24 = .ok (.bipush 60, 2) := by decide +kernel
theorem dX8_readJoint_26 : decode cX8_readJoint 26 = .ok (.invokevirtual 201, 3) := by decide +kernel
theorem dX8_readJoint_29 : decode cX8_readJoint 29 = .ok (.ifCond .ne 5, 3) := by decide +kernel
theorem dX8_readJoint_32 : decode cX8_readJoint 32 = .ok (.iconst 0, 1) := by decide +kernel
theorem dX8_readJoint_33 : decode cX8_readJoint 33 = .ok (.ireturn, 1) := by decide +kernel
theorem dX8_readJoint_34 : decode cX8_readJoint 34 = .ok (.aload_n 0, 1) := by decide +kernel
theorem dX8_readJoint_35 : decode cX8_readJoint 35 = .ok (.getfield 19, 3) := by decide +kernel
theorem dX8_readJoint_38 : decode cX8_readJoint 38 = .ok (.bipush 9, 2) := by decide +kernel
theorem dX8_readJoint_40 : decode cX8_readJoint 40 = .ok (.aload_n 0, 1) := by decide +kernel
theorem dX8_readJoint_41 : decode cX8_readJoint 41 = .ok (.getfield 174, 3) := by decide +kernel
theorem dX8_readJoint_44 : decode cX8_readJoint 44 = .ok (.iadd, 1) := by decide +kernel
theorem dX8_readJoint_45 : decode cX8_readJoint 45 = .ok (.aload_n 0, 1) := by decide +kernel
theorem dX8_readJoint_46 : decode cX8_readJoint 46 = .ok (.getfield 185, 3) := by decide +kernel
theorem dX8_readJoint_49 : decode cX8_readJoint 49 = .ok (.iastore, 1) := by decide +kernel
theorem dX8_readJoint_50 : decode cX8_readJoint 50 = .ok (.aload_n 0, 1) := by decide +kernel
theorem dX8_readJoint_51 : decode cX8_readJoint 51 = .ok (.ldc 166, 2) := by decide +kernel
theorem dX8_readJoint_53 : decode cX8_readJoint 53 = .ok (.invokevirtual 160, 3) := by decide +kernel
theorem dX8_readJoint_56 : decode cX8_readJoint 56 = .ok (.ifCond .ne 9, 3) := by decide +kernel
theorem dX8_readJoint_59 : decode cX8_readJoint 59 = .ok (.aload_n 0, 1) := by decide +kernel
theorem dX8_readJoint_60 : decode cX8_readJoint 60 = .ok (.iconst 1, 1) := by decide +kernel
theorem dX8_readJoint_61 : decode cX8_readJoint 61 = .ok (.invokevirtual 181, 3) := by decide +kernel
theorem dX8_readJoint_64 : decode cX8_readJoint 64 = .ok (.ireturn, 1) := by decide +kernel
theorem dX8_readJoint_65 : decode cX8_readJoint 65 = .ok (.aload_n 0, 1) := by decide +kernel
theorem dX8_readJoint_66 : decode cX8_readJoint 66 = .ok (.invokevirtual 188, 3) := by decide +kernel
theorem dX8_readJoint_69 : decode cX8_readJoint 69 = .ok (.aload_n 0, 1) := by decide +kernel
theorem dX8_readJoint_70 : decode cX8_readJoint 70 = .ok (.iconst 0, 1) := by decide +kernel
theorem dX8_readJoint_71 : decode cX8_readJoint 71 = .ok (.sipush 300, 3) := by decide +kernel
theorem dX8_readJoint_74 : decode cX8_readJoint 74 = .ok (.invokevirtual 201, 3) := by decide +kernel
theorem dX8_readJoint_77 : decode cX8_readJoint 77 = .ok (.ifCond .ne 5, 3) := by decide +kernel
theorem dX8_readJoint_80 : decode cX8_readJoint 80 = .ok (.iconst 0, 1) := by decide +kernel
theorem dX8_readJoint_81 : decode cX8_readJoint 81 = .ok (.ireturn, 1) := by decide +kernel
theorem dX8_readJoint_82 : decode cX8_readJoint 82 = .ok (.aload_n 0, 1) := by decide +kernel
theorem dX8_readJoint_83 : decode cX8_readJoint 83 = .ok (.getfield 22, 3) := by decide +kernel
theorem dX8_readJoint_86 : decode cX8_readJoint 86 = .ok (.bipush 9, 2) := by decide +kernel
theorem dX8_readJoint_88 : decode cX8_readJoint 88 = .ok (.aload_n 0, 1) := by decide +kernel
theorem dX8_readJoint_89 : decode cX8_readJoint 89 = .ok (.getfield 174, 3) := by decide +kernel
theorem dX8_readJoint_92 : decode cX8_readJoint 92 = .ok (.iadd, 1) := by decide +kernel
theorem dX8_readJoint_93 : decode cX8_readJoint 93 = .ok (.aload_n 0, 1) := by decide +kernel
theorem dX8_readJoint_94 : decode cX8_readJoint 94 = .ok (.getfield 185, 3) := by decide +kernel
theorem dX8_readJoint_97 : decode cX8_readJoint 97 = .ok (.iastore, 1) := by decide +kernel
theorem dX8_readJoint_98 : decode cX8_readJoint 98 = .ok (.aload_n 0, 1) := by decide +kernel
theorem dX8_readJoint_99 : decode cX8_readJoint 99 = .ok (.dup, 1) := by decide +kernel
theorem dX8_readJoint_100 : decode cX8_readJoint 100 = .ok (.getfield 174, 3) := by decide +kernel
theorem dX8_readJoint_103 : decode cX8_readJoint 103 = .ok (.iconst 1, 1) := by decide +kernel
theorem dX8_readJoint_104 : decode cX8_readJoint 104 = .ok (.iadd, 1) := by decide +kernel
theorem dX8_readJoint_105 : decode cX8_readJoint 105 = .ok (.putfield 174, 3) := by decide +kernel
theorem dX8_readJoint_108 : decode cX8_readJoint 108 = .ok (.iconst 1, 1) := by decide +kernel
theorem dX8_readJoint_109 : decode cX8_readJoint 109 = .ok (.ireturn, 1) := by decide +kernel
theorem dX8_takesJoint_0 : decode cX8_takesJoint 0 = .ok (.aload_n 0, 1) := by decide +kernel
theorem dX8_takesJoint_1 : decode cX8_takesJoint 1 = .ok (.invokevirtual 191, 3) := by decide +kernel
theorem dX8_takesJoint_4 : decode cX8_takesJoint 4 = .ok (.ifCond .ne 11, 3) := by decide +kernel
theorem dX8_takesJoint_7 : decode cX8_takesJoint 7 = .ok (.aload_n 0, 1) := by decide +kernel
theorem dX8_takesJoint_8 : decode cX8_takesJoint 8 = .ok (.iconst 1, 1) := by decide +kernel
theorem dX8_takesJoint_9 : decode cX8_takesJoint 9 = .ok (.invokevirtual 181, 3) := by decide +kernel
theorem dX8_takesJoint_12 : decode cX8_takesJoint 12 = .ok (.pop, 1) := by decide +kernel
theorem dX8_takesJoint_13 : decode cX8_takesJoint 13 = .ok (.iconst (-1), 1) := by decide +kernel
