theorem dX7_init_0 : decode cX7_init 0 = .ok (.aload_n 0, 1) := by decide +kernel
theorem dX7_init_1 : decode cX7_init 1 = .ok (.invokespecial 3, 3) := by decide +kernel
theorem dX7_init_4 : decode cX7_init 4 = .ok (.aload_n 0, 1) := by decide +kernel
theorem dX7_init_5 : decode cX7_init 5 = .ok (.sipush 600, 3) := by decide +kernel
theorem dX7_init_8 : decode cX7_init 8 = .ok (.newarray .byte, 2) := by decide +kernel
theorem dX7_init_10 : decode cX7_init 10 = .ok (.putfield 11, 3) := by decide +kernel
theorem dX7_init_13 : decode cX7_init 13 = .ok (.aload_n 0, 1) := by decide +kernel
theorem dX7_init_14 : decode cX7_init 14 = .ok (.iconst (-1), 1) := by decide +kernel
theorem dX7_init_15 : decode cX7_init 15 = .ok (.putfield 15, 3) := by decide +kernel
theorem dX7_init_18 : decode cX7_init 18 = .ok (.aload_n 0, 1) := by decide +kernel
theorem dX7_init_19 : decode cX7_init 19 = .ok (.new 19, 3) := by decide +kernel
theorem dX7_init_22 : decode cX7_init 22 = .ok (.dup, 1) := by decide +kernel
theorem dX7_init_23 : decode cX7_init 23 = .ok (.invokespecial 21, 3) := by decide +kernel
theorem dX7_init_26 : decode cX7_init 26 = .ok (.putfield 22, 3) := by decide +kernel
theorem dX7_init_29 : decode cX7_init 29 = .ok (.aload_n 0, 1) := by decide +kernel
theorem dX7_init_30 : decode cX7_init 30 = .ok (.new 26, 3) := by decide +kernel
theorem dX7_init_33 : decode cX7_init 33 = .ok (.dup, 1) := by decide +kernel
theorem dX7_init_34 : decode cX7_init 34 = .ok (.invokespecial 28, 3) := by decide +kernel
theorem dX7_init_37 : decode cX7_init 37 = .ok (.putfield 29, 3) := by decide +kernel
theorem dX7_init_40 : decode cX7_init 40 = .ok (.aload_n 0, 1) := by decide +kernel
theorem dX7_init_41 : decode cX7_init 41 = .ok (.aload_n 0, 1) := by decide +kernel
theorem dX7_init_42 : decode cX7_init 42 = .ok (.getfield 29, 3) := by decide +kernel
theorem dX7_init_45 : decode cX7_init 45 = .ok (.getfield 33, 3) := by decide +kernel
theorem dX7_init_48 : decode cX7_init 48 = .ok (.putfield 37, 3) := by decide +kernel
theorem dX7_init_51 : decode cX7_init 51 = .ok (.aload_n 0, 1) := by decide +kernel
theorem dX7_init_52 : decode cX7_init 52 = .ok (.new 26, 3) := by decide +kernel
theorem dX7_init_55 : decode cX7_init 55 = .ok (.dup, 1) := by decide +kernel
theorem dX7_init_56 : decode cX7_init 56 = .ok (.invokespecial 28, 3) := by decide +kernel
theorem dX7_init_59 : decode cX7_init 59 = .ok (.putfield 38, 3) := by decide +kernel
theorem dX7_init_62 : decode cX7_init 62 = .ok (.aload_n 0, 1) := by decide +kernel
theorem dX7_init_63 : decode cX7_init 63 = .ok (.aload_n 0, 1) := by decide +kernel
theorem dX7_init_64 : decode cX7_init 64 = .ok (.getfield 38, 3) := by decide +kernel
theorem dX7_init_67 : decode cX7_init 67 = .ok (.getfield 33, 3) := by decide +kernel
theorem dX7_init_70 : decode cX7_init 70 = .ok (.putfield 41, 3) := by decide +kernel
theorem dX7_init_73 : decode cX7_init 73 = .ok (.aload_n 0, 1) := by decide +kernel
theorem dX7_init_74 : decode cX7_init 74 = .ok (.new 44, 3) := by decide +kernel
theorem dX7_init_77 : decode cX7_init 77 = .ok (.dup, 1) := by decide +kernel
theorem dX7_init_78 : decode cX7_init 78 = .ok (.invokespecial 46, 3) := by decide +kernel
theorem dX7_init_81 : decode cX7_init 81 = .ok (.putfield 47, 3) := by decide +kernel
theorem dX7_init_84 : decode cX7_init 84 = .ok (.aload_n 0, 1) := by decide +kernel
theorem dX7_init_85 : decode cX7_init 85 = .ok (.new 51, 3) := by decide +kernel
theorem dX7_init_88 : decode cX7_init 88 = .ok (.dup, 1) := by decide +kernel
theorem dX7_init_89 : decode cX7_init 89 = .ok (.invokespecial 53, 3) := by decide +kernel
theorem dX7_init_92 : decode cX7_init 92 = .ok (.putfield 54, 3) := by decide +kernel
theorem dX7_init_95 : decode cX7_init 95 = .ok (.return_, 1) := by decide +kernel
theorem dX7_feed_0 : decode cX7_feed 0 = .ok (.aload_n 0, 1) := by decide +kernel
theorem dX7_feed_1 : decode cX7_feed 1 = .ok (.getfield 58, 3) := by decide +kernel
theorem dX7_feed_4 : decode cX7_feed 4 = .ok (.bipush 20, 2) := by decide +kernel
theorem dX7_feed_6 : decode cX7_feed 6 = .ok (.iadd, 1) := by decide +kernel
theorem dX7_feed_7 : decode cX7_feed 7 = .ok (.sipush 600, 3) := by decide +kernel
theorem dX7_feed_10 : decode cX7_feed 10 = .ok (.if_icmp .le 5, 3) := by decide +kernel
theorem dX7_feed_13 : decode cX7_feed 13 = .ok (.iconst (-1), 1) := by decide +kernel
theorem dX7_feed_14 : decode cX7_feed 14 = .ok (.ireturn, 1) := by decide +kernel
theorem dX7_feed_15 : decode cX7_feed 15 = .ok (.aload_n 0, 1) := by decide +kernel
theorem dX7_feed_16 : decode cX7_feed 16 = .ok (.iload_n 1, 1) := by decide +kernel
theorem dX7_feed_17 : decode cX7_feed 17 = .ok (.invokevirtual 61, 3) := by decide +kernel
theorem dX7_feed_20 : decode cX7_feed 20 = .ok (.aload_n 0, 1) := by decide +kernel
theorem dX7_feed_21 : decode cX7_feed 21 = .ok (.iload_n 2, 1) := by decide +kernel
theorem dX7_feed_22 : decode cX7_feed 22 = .ok (.invokevirtual 61, 3) := by decide +kernel
theorem dX7_feed_25 : decode cX7_feed 25 = .ok (.aload_n 0, 1) := by decide +kernel
theorem dX7_feed_26 : decode cX7_feed 26 = .ok (.iload_n 3, 1) := by decide +kernel
theorem dX7_feed_27 : decode cX7_feed 27 = .ok (.invokevirtual 61, 3) := by decide +kernel
theorem dX7_feed_30 : decode cX7_feed 30 = .ok (.aload_n 0, 1) := by decide +kernel
theorem dX7_feed_31 : decode cX7_feed 31 = .ok (.iload 4, 2) := by decide +kernel
theorem dX7_feed_33 : decode cX7_feed 33 = .ok (.invokevirtual 61, 3) := by decide +kernel
theorem dX7_feed_36 : decode cX7_feed 36 = .ok (.aload_n 0, 1) := by decide +kernel
theorem dX7_feed_37 : decode cX7_feed 37 = .ok (.iload 5, 2) := by decide +kernel
theorem dX7_feed_39 : decode cX7_feed 39 = .ok (.invokevirtual 61, 3) := by decide +kernel
theorem dX7_feed_42 : decode cX7_feed 42 = .ok (.aload_n 0, 1) := by decide +kernel
theorem dX7_feed_43 : decode cX7_feed 43 = .ok (.getfield 58, 3) := by decide +kernel
theorem dX7_feed_46 : decode cX7_feed 46 = .ok (.ireturn, 1) := by decide +kernel
theorem dX7_text_0 : decode cX7_text 0 = .ok (.iload_n 1, 1) := by decide +kernel
theorem dX7_text_1 : decode cX7_text 1 = .ok (.ifCond .lt 11, 3) := by decide +kernel
theorem dX7_text_4 : decode cX7_text 4 = .ok (.iload_n 1, 1) := by decide +kernel
theorem dX7_text_5 : decode cX7_text 5 = .ok (.aload_n 0, 1) := by decide +kernel
theorem dX7_text_6 : decode cX7_text 6 = .ok (.getfield 58, 3) := by decide +kernel
theorem dX7_text_9 : decode cX7_text 9 = .ok (.if_icmp .le 9, 3) := by decide +kernel
theorem dX7_text_12 : decode cX7_text 12 = .ok (.aload_n 0, 1) := by decide +kernel
theorem dX7_text_13 : decode cX7_text 13 = .ok (.iconst 2, 1) := by decide +kernel
theorem dX7_text_14 : decode cX7_text 14 = .ok (.invokevirtual 65, 3) := by decide +kernel
theorem dX7_text_17 : decode cX7_text 17 = .ok (.ireturn, 1) := by decide +kernel
theorem dX7_text_18 : decode cX7_text 18 = .ok (.aload_n 0, 1) := by decide +kernel
theorem dX7_text_19 : decode cX7_text 19 = .ok (.aload_n 0, 1) := by decide +kernel
theorem dX7_text_20 : decode cX7_text 20 = .ok (.getfield 22, 3) := by decide +kernel
theorem dX7_text_23 : decode cX7_text 23 = .ok (.aload_n 0, 1) := by decide +kernel
theorem dX7_text_24 : decode cX7_text 24 = .ok (.getfield 11, 3) := by decide +kernel
theorem dX7_text_27 : decode cX7_text 27 = .ok (.iload_n 1, 1) := by decide +kernel
theorem dX7_text_28 : decode cX7_text 28 = .ok (.invokevirtual 69, 3) := by decide +kernel
theorem dX7_text_31 : decode cX7_text 31 = .ok (.putfield 73, 3) := by decide +kernel
theorem dX7_text_34 : decode cX7_text 34 = .ok (.aload_n 0, 1) := by decide +kernel
theorem dX7_text_35 : decode cX7_text 35 = .ok (.iconst 0, 1) := by decide +kernel
theorem dX7_text_36 : decode cX7_text 36 = .ok (.putfield 58, 3) := by decide +kernel
theorem dX7_text_39 : decode cX7_text 39 = .ok (.aload_n 0, 1) := by decide +kernel
theorem dX7_text_40 : decode cX7_text 40 = .ok (.getfield 73, 3) := by decide +kernel
theorem dX7_text_43 : decode cX7_text 43 = .ok (.ifCond .eq 22, 3) := by decide +kernel
theorem dX7_text_46 : decode cX7_text 46 = .ok (.aload_n 0, 1) := by decide +kernel
theorem dX7_text_47 : decode cX7_text 47 = .ok (.iconst 4, 1) := by decide +kernel
theorem dX7_text_48 : decode cX7_text 48 = .ok (.invokevirtual 65, 3) := by decide +kernel
theorem dX7_text_51 : decode cX7_text 51 = .ok (.pop, 1) := by decide +kernel
theorem dX7_text_52 : decode cX7_text 52 = .ok (.aload_n 0, 1) := by decide +kernel
theorem dX7_text_53 : decode cX7_text 53 = .ok (.aload_n 0, 1) := by decide +kernel
theorem dX7_text_54 : decode cX7_text 54 = .ok (.getfield 22, 3) := by decide +kernel
theorem dX7_text_57 : decode cX7_text 57 = .ok (.getfield 76, 3) := by decide +kernel
theorem dX7_text_60 : decode cX7_text 60 = .ok (.putfield 15, 3) := by decide +kernel
theorem dX7_text_63 : decode cX7_text 63 = .ok (.iconst (-1), 1) := by decide +kernel
theorem dX7_text_64 : decode cX7_text 64 = .ok (.ireturn, 1) := by decide +kernel
theorem dX7_text_65 : decode cX7_text 65 = .ok (.aload_n 0, 1) := by decide +kernel
theorem dX7_text_66 : decode cX7_text 66 = .ok (.invokevirtual 79, 3) := by decide +kernel
theorem dX7_text_69 : decode cX7_text 69 = .ok (.aload_n 0, 1) := by decide +kernel
theorem dX7_text_70 : decode cX7_text 70 = .ok (.getfield 37, 3) := by decide +kernel
theorem dX7_text_73 : decode cX7_text 73 = .ok (.aload_n 0, 1) := by decide +kernel
theorem dX7_text_74 : decode cX7_text 74 = .ok (.getfield 22, 3) := by decide +kernel
theorem dX7_text_77 : decode cX7_text 77 = .ok (.getfield 82, 3) := by decide +kernel
theorem dX7_text_80 : decode cX7_text 80 = .ok (.invokevirtual 83, 3) := by decide +kernel
theorem dX7_text_83 : decode cX7_text 83 = .ok (.aload_n 0, 1) := by decide +kernel
theorem dX7_text_84 : decode cX7_text 84 = .ok (.getfield 47, 3) := by decide +kernel
theorem dX7_text_87 : decode cX7_text 87 = .ok (.iconst 0, 1) := by decide +kernel
theorem dX7_text_88 : decode cX7_text 88 = .ok (.putfield 89, 3) := by decide +kernel
theorem dX7_text_91 : decode cX7_text 91 = .ok (.aload_n 0, 1) := by decide +kernel
theorem dX7_text_92 : decode cX7_text 92 = .ok (.getfield 54, 3) := by decide +kernel
theorem dX7_text_95 : decode cX7_text 95 = .ok (.invokevirtual 92, 3) := by decide +kernel
theorem dX7_text_98 : decode cX7_text 98 = .ok (.aload_n 0, 1) := by decide +kernel
theorem dX7_text_99 : decode cX7_text 99 = .ok (.invokevirtual 95, 3) := by decide +kernel
theorem dX7_text_102 : decode cX7_text 102 = .ok (.aload_n 0, 1) := by decide +kernel
theorem dX7_text_103 : decode cX7_text 103 = .ok (.getfield 37, 3) := by decide +kernel
theorem dX7_text_106 : decode cX7_text 106 = .ok (.getfield 98, 3) := by decide +kernel
theorem dX7_text_109 : decode cX7_text 109 = .ok (.ireturn, 1) := by decide +kernel
theorem dX7_fault_0 : decode cX7_fault 0 = .ok (.aload_n 0, 1) := by decide +kernel
theorem dX7_fault_1 : decode cX7_fault 1 = .ok (.getfield 73, 3) := by decide +kernel
theorem dX7_fault_4 : decode cX7_fault 4 = .ok (.ireturn, 1) := by decide +kernel
theorem dX7_where_0 : decode cX7_where 0 = .ok (.aload_n 0, 1) := by decide +kernel
theorem dX7_where_1 : decode cX7_where 1 = .ok (.getfield 15, 3) := by decide +kernel
theorem dX7_where_4 : decode cX7_where 4 = .ok (.ireturn, 1) := by decide +kernel
theorem dX7_about_0 : decode cX7_about 0 = .ok (.aload_n 0, 1) := by decide +kernel
theorem dX7_about_1 : decode cX7_about 1 = .ok (.invokevirtual 101, 3) := by decide +kernel
theorem dX7_about_4 : decode cX7_about 4 = .ok (.ifCond .eq 13, 3) := by decide +kernel
theorem dX7_about_7 : decode cX7_about 7 = .ok (.iload_n 1, 1) := by decide +kernel
theorem dX7_about_8 : decode cX7_about 8 = .ok (.ifCond .lt 9, 3) := by decide +kernel
theorem dX7_about_11 : decode cX7_about 11 = .ok (.iload_n 1, 1) := by decide +kernel
theorem dX7_about_12 : decode cX7_about 12 = .ok (.bipush 10, 2) := by decide +kernel
theorem dX7_about_14 : decode cX7_about 14 = .ok (.if_icmp .le 9, 3) := by decide +kernel
theorem dX7_about_17 : decode cX7_about 17 = .ok (.aload_n 0, 1) := by decide +kernel
theorem dX7_about_18 : decode cX7_about 18 = .ok (.iconst 1, 1) := by decide +kernel
theorem dX7_about_19 : decode cX7_about 19 = .ok (.invokevirtual 65, 3) := by decide +kernel
theorem dX7_about_22 : decode cX7_about 22 = .ok (.ireturn, 1) := by decide +kernel
theorem dX7_about_23 : decode cX7_about 23 = .ok (.aload_n 0, 1) := by decide +kernel
theorem dX7_about_24 : decode cX7_about 24 = .ok (.invokevirtual 79, 3) := by decide +kernel
theorem dX7_about_27 : decode cX7_about 27 = .ok (.iload_n 1, 1) := by decide +kernel
theorem dX7_about_28 : decode cX7_about 28 = .ok (.tableswitch 147 0 9 #[56, 64, 72, 83, 99, 107, 115, 123, 131, 139], 56) := by decide +kernel
theorem dX7_about_84 : decode cX7_about 84 = .ok (.aload_n 0, 1) := by decide +kernel
theorem dX7_about_85 : decode cX7_about 85 = .ok (.getfield 37, 3) := by decide +kernel
theorem dX7_about_88 : decode cX7_about 88 = .ok (.getfield 98, 3) := by decide +kernel
theorem dX7_about_91 : decode cX7_about 91 = .ok (.ireturn, 1) := by decide +kernel
theorem dX7_about_92 : decode cX7_about 92 = .ok (.aload_n 0, 1) := by decide +kernel
theorem dX7_about_93 : decode cX7_about 93 = .ok (.getfield 37, 3) := by decide +kernel
theorem dX7_about_96 : decode cX7_about 96 = .ok (.getfield 105, 3) := by decide +kernel
theorem dX7_about_99 : decode cX7_about 99 = .ok (.ireturn, 1) := by decide +kernel
theorem dX7_about_100 : decode cX7_about 100 = .ok (.aload_n 0, 1) := by decide +kernel
theorem dX7_about_101 : decode cX7_about 101 = .ok (.getfield 29, 3) := by decide +kernel
theorem dX7_about_104 : decode cX7_about 104 = .ok (.getfield 108, 3) := by decide +kernel
theorem dX7_about_107 : decode cX7_about 107 = .ok (.getfield 112, 3) := by decide +kernel
theorem dX7_about_110 : decode cX7_about 110 = .ok (.ireturn, 1) := by decide +kernel
theorem dX7_about_111 : decode cX7_about 111 = .ok (.aload_n 0, 1) := by decide +kernel
theorem dX7_about_112 : decode cX7_about 112 = .ok (.getfield 29, 3) := by decide +kernel
theorem dX7_about_115 : decode cX7_about 115 = .ok (.getfield 115, 3) := by decide +kernel
theorem dX7_about_118 : decode cX7_about 118 = .ok (.ifCond .eq 7, 3) := by decide +kernel
theorem dX7_about_121 : decode cX7_about 121 = .ok (.iconst 1, 1) := by decide +kernel
theorem dX7_about_122 : decode cX7_about 122 = .ok (.goto 4, 3) := by decide +kernel
theorem dX7_about_125 : decode cX7_about 125 = .ok (.iconst 0, 1) := by decide +kernel
theorem dX7_about_126 : decode cX7_about 126 = .ok (.ireturn, 1) := by decide +kernel
theorem dX7_about_127 : decode cX7_about 127 = .ok (.aload_n 0, 1) := by decide +kernel
theorem dX7_about_128 : decode cX7_about 128 = .ok (.getfield 29, 3) := by decide +kernel
theorem dX7_about_131 : decode cX7_about 131 = .ok (.getfield 119, 3) := by decide +kernel
theorem dX7_about_134 : decode cX7_about 134 = .ok (.ireturn, 1) := by decide +kernel
theorem dX7_about_135 : decode cX7_about 135 = .ok (.aload_n 0, 1) := by decide +kernel
theorem dX7_about_136 : decode cX7_about 136 = .ok (.getfield 29, 3) := by decide +kernel
theorem dX7_about_139 : decode cX7_about 139 = .ok (.getfield 122, 3) := by decide +kernel
theorem dX7_about_142 : decode cX7_about 142 = .ok (.ireturn, 1) := by decide +kernel
theorem dX7_about_143 : decode cX7_about 143 = .ok (.aload_n 0, 1) := by decide +kernel
theorem dX7_about_144 : decode cX7_about 144 = .ok (.getfield 29, 3) := by decide +kernel
theorem dX7_about_147 : decode cX7_about 147 = .ok (.invokevirtual 125, 3) := by decide +kernel
theorem dX7_about_150 : decode cX7_about 150 = .ok (.ireturn, 1) := by decide +kernel
theorem dX7_about_151 : decode cX7_about 151 = .ok (.aload_n 0, 1) := by decide +kernel
theorem dX7_about_152 : decode cX7_about 152 = .ok (.getfield 47, 3) := by decide +kernel
theorem dX7_about_155 : decode cX7_about 155 = .ok (.getfield 89, 3) := by decide +kernel
theorem dX7_about_158 : decode cX7_about 158 = .ok (.ireturn, 1) := by decide +kernel
theorem dX7_about_159 : decode cX7_about 159 = .ok (.aload_n 0, 1) := by decide +kernel
theorem dX7_about_160 : decode cX7_about 160 = .ok (.getfield 29, 3) := by decide +kernel
theorem dX7_about_163 : decode cX7_about 163 = .ok (.invokevirtual 129, 3) := by decide +kernel
theorem dX7_about_166 : decode cX7_about 166 = .ok (.ireturn, 1) := by decide +kernel
theorem dX7_about_167 : decode cX7_about 167 = .ok (.aload_n 0, 1) := by decide +kernel
theorem dX7_about_168 : decode cX7_about 168 = .ok (.getfield 29, 3) := by decide +kernel
theorem dX7_about_171 : decode cX7_about 171 = .ok (.getfield 132, 3) := by decide +kernel
theorem dX7_about_174 : decode cX7_about 174 = .ok (.ireturn, 1) := by decide +kernel
theorem dX7_about_175 : decode cX7_about 175 = .ok (.aload_n 0, 1) := by decide +kernel
theorem dX7_about_176 : decode cX7_about 176 = .ok (.getfield 54, 3) := by decide +kernel
theorem dX7_about_179 : decode cX7_about 179 = .ok (.invokevirtual 135, 3) := by decide +kernel
theorem dX7_about_182 : decode cX7_about 182 = .ok (.ireturn, 1) := by decide +kernel
theorem dX7_edge_0 : decode cX7_edge 0 = .ok (.aload_n 0, 1) := by decide +kernel
theorem dX7_edge_1 : decode cX7_edge 1 = .ok (.getfield 37, 3) := by decide +kernel
theorem dX7_edge_4 : decode cX7_edge 4 = .ok (.iload_n 1, 1) := by decide +kernel
theorem dX7_edge_5 : decode cX7_edge 5 = .ok (.invokevirtual 137, 3) := by decide +kernel
theorem dX7_edge_8 : decode cX7_edge 8 = .ok (.ifCond .eq 13, 3) := by decide +kernel
theorem dX7_edge_11 : decode cX7_edge 11 = .ok (.iload_n 2, 1) := by decide +kernel
theorem dX7_edge_12 : decode cX7_edge 12 = .ok (.ifCond .lt 9, 3) := by decide +kernel
theorem dX7_edge_15 : decode cX7_edge 15 = .ok (.iload_n 2, 1) := by decide +kernel
theorem dX7_edge_16 : decode cX7_edge 16 = .ok (.bipush 7, 2) := by decide +kernel
theorem dX7_edge_18 : decode cX7_edge 18 = .ok (.if_icmp .le 9, 3) := by decide +kernel
theorem dX7_edge_21 : decode cX7_edge 21 = .ok (.aload_n 0, 1) := by decide +kernel
theorem dX7_edge_22 : decode cX7_edge 22 = .ok (.iconst 1, 1) := by decide +kernel
theorem dX7_edge_23 : decode cX7_edge 23 = .ok (.invokevirtual 65, 3) := by decide +kernel
theorem dX7_edge_26 : decode cX7_edge 26 = .ok (.ireturn, 1) := by decide +kernel
theorem dX7_edge_27 : decode cX7_edge 27 = .ok (.aload_n 0, 1) := by decide +kernel
theorem dX7_edge_28 : decode cX7_edge 28 = .ok (.invokevirtual 79, 3) := by decide +kernel
theorem dX7_edge_31 : decode cX7_edge 31 = .ok (.iload_n 2, 1) := by decide +kernel
theorem dX7_edge_32 : decode cX7_edge 32 = .ok (.tableswitch 141 0 6 #[44, 54, 64, 74, 102, 114, 126], 44) := by decide +kernel
theorem dX7_edge_76 : decode cX7_edge 76 = .ok (.aload_n 0, 1) := by decide +kernel
theorem dX7_edge_77 : decode cX7_edge 77 = .ok (.getfield 37, 3) := by decide +kernel
theorem dX7_edge_80 : decode cX7_edge 80 = .ok (.getfield 141, 3) := by decide +kernel
theorem dX7_edge_83 : decode cX7_edge 83 = .ok (.iload_n 1, 1) := by decide +kernel
theorem dX7_edge_84 : decode cX7_edge 84 = .ok (.iaload, 1) := by decide +kernel
theorem dX7_edge_85 : decode cX7_edge 85 = .ok (.ireturn, 1) := by decide +kernel
theorem dX7_edge_86 : decode cX7_edge 86 = .ok (.aload_n 0, 1) := by decide +kernel
theorem dX7_edge_87 : decode cX7_edge 87 = .ok (.getfield 37, 3) := by decide +kernel
theorem dX7_edge_90 : decode cX7_edge 90 = .ok (.getfield 145, 3) := by decide +kernel
theorem dX7_edge_93 : decode cX7_edge 93 = .ok (.iload_n 1, 1) := by decide +kernel
theorem dX7_edge_94 : decode cX7_edge 94 = .ok (.iaload, 1) := by decide +kernel
theorem dX7_edge_95 : decode cX7_edge 95 = .ok (.ireturn, 1) := by decide +kernel
theorem dX7_edge_96 : decode cX7_edge 96 = .ok (.aload_n 0, 1) := by decide +kernel
theorem dX7_edge_97 : decode cX7_edge 97 = .ok (.getfield 37, 3) := by decide +kernel
theorem dX7_edge_100 : decode cX7_edge 100 = .ok (.getfield 148, 3) := by decide +kernel
theorem dX7_edge_103 : decode cX7_edge 103 = .ok (.iload_n 1, 1) := by decide +kernel
theorem dX7_edge_104 : decode cX7_edge 104 = .ok (.iaload, 1) := by decide +kernel
theorem dX7_edge_105 : decode cX7_edge 105 = .ok (.ireturn, 1) := by decide +kernel
theorem dX7_edge_106 : decode cX7_edge 106 = .ok (.aload_n 0, 1) := by decide +kernel
theorem dX7_edge_107 : decode cX7_edge 107 = .ok (.getfield 37, 3) := by decide +kernel
theorem dX7_edge_110 : decode cX7_edge 110 = .ok (.getfield 148, 3) := by decide +kernel
theorem dX7_edge_113 : decode cX7_edge 113 = .ok (.iload_n 1, 1) := by decide +kernel
theorem dX7_edge_114 : decode cX7_edge 114 = .ok (.iaload, 1) := by decide +kernel
theorem dX7_edge_115 : decode cX7_edge 115 = .ok (.iconst 2, 1) := by decide +kernel
theorem dX7_edge_116 : decode cX7_edge 116 = .ok (.if_icmp .ne 8, 3) := by decide +kernel
theorem dX7_edge_119 : decode cX7_edge 119 = .ok (.bipush (-2), 2) := by decide +kernel
theorem dX7_edge_121 : decode cX7_edge 121 = .ok (.goto 12, 3) := by decide +kernel
theorem dX7_edge_124 : decode cX7_edge 124 = .ok (.aload_n 0, 1) := by decide +kernel
theorem dX7_edge_125 : decode cX7_edge 125 = .ok (.getfield 37, 3) := by decide +kernel
theorem dX7_edge_128 : decode cX7_edge 128 = .ok (.getfield 151, 3) := by decide +kernel
theorem dX7_edge_131 : decode cX7_edge 131 = .ok (.iload_n 1, 1) := by decide +kernel
theorem dX7_edge_132 : decode cX7_edge 132 = .ok (.iaload, 1) := by decide +kernel
theorem dX7_edge_133 : decode cX7_edge 133 = .ok (.ireturn, 1) := by decide +kernel
theorem dX7_edge_134 : decode cX7_edge 134 = .ok (.aload_n 0, 1) := by decide +kernel
theorem dX7_edge_135 : decode cX7_edge 135 = .ok (.getfield 37, 3) := by decide +kernel
theorem dX7_edge_138 : decode cX7_edge 138 = .ok (.getfield 154, 3) := by decide +kernel
theorem dX7_edge_141 : decode cX7_edge 141 = .ok (.iload_n 1, 1) := by decide +kernel
theorem dX7_edge_142 : decode cX7_edge 142 = .ok (.invokestatic 157, 3) := by decide +kernel
theorem dX7_edge_145 : decode cX7_edge 145 = .ok (.ireturn, 1) := by decide +kernel
theorem dX7_edge_146 : decode cX7_edge 146 = .ok (.aload_n 0, 1) := by decide +kernel
theorem dX7_edge_147 : decode cX7_edge 147 = .ok (.getfield 29, 3) := by decide +kernel
theorem dX7_edge_150 : decode cX7_edge 150 = .ok (.getfield 132, 3) := by decide +kernel
theorem dX7_edge_153 : decode cX7_edge 153 = .ok (.iload_n 1, 1) := by decide +kernel
theorem dX7_edge_154 : decode cX7_edge 154 = .ok (.invokestatic 157, 3) := by decide +kernel
theorem dX7_edge_157 : decode cX7_edge 157 = .ok (.ireturn, 1) := by decide +kernel
theorem dX7_edge_158 : decode cX7_edge 158 = .ok (.aload_n 0, 1) := by decide +kernel
theorem dX7_edge_159 : decode cX7_edge 159 = .ok (.getfield 29, 3) := by decide +kernel
theorem dX7_edge_162 : decode cX7_edge 162 = .ok (.getfield 161, 3) := by decide +kernel
theorem dX7_edge_165 : decode cX7_edge 165 = .ok (.getfield 165, 3) := by decide +kernel
theorem dX7_edge_168 : decode cX7_edge 168 = .ok (.iload_n 1, 1) := by decide +kernel
theorem dX7_edge_169 : decode cX7_edge 169 = .ok (.invokestatic 157, 3) := by decide +kernel
theorem dX7_edge_172 : decode cX7_edge 172 = .ok (.ireturn, 1) := by decide +kernel
theorem dX7_edge_173 : decode cX7_edge 173 = .ok (.aload_n 0, 1) := by decide +kernel
theorem dX7_edge_174 : decode cX7_edge 174 = .ok (.getfield 29, 3) := by decide +kernel
theorem dX7_edge_177 : decode cX7_edge 177 = .ok (.getfield 108, 3) := by decide +kernel
theorem dX7_edge_180 : decode cX7_edge 180 = .ok (.iload_n 1, 1) := by decide +kernel
theorem dX7_edge_181 : decode cX7_edge 181 = .ok (.invokevirtual 168, 3) := by decide +kernel
theorem dX7_edge_184 : decode cX7_edge 184 = .ok (.ireturn, 1) := by decide +kernel
theorem dX7_flow_0 : decode cX7_flow 0 = .ok (.aload_n 0, 1) := by decide +kernel
theorem dX7_flow_1 : decode cX7_flow 1 = .ok (.getfield 37, 3) := by decide +kernel
theorem dX7_flow_4 : decode cX7_flow 4 = .ok (.iload_n 1, 1) := by decide +kernel
theorem dX7_flow_5 : decode cX7_flow 5 = .ok (.invokevirtual 137, 3) := by decide +kernel
theorem dX7_flow_8 : decode cX7_flow 8 = .ok (.ifCond .ne 9, 3) := by decide +kernel
theorem dX7_flow_11 : decode cX7_flow 11 = .ok (.aload_n 0, 1) := by decide +kernel
theorem dX7_flow_12 : decode cX7_flow 12 = .ok (.iconst 1, 1) := by decide +kernel
theorem dX7_flow_13 : decode cX7_flow 13 = .ok (.invokevirtual 171, 3) := by decide +kernel
theorem dX7_flow_16 : decode cX7_flow 16 = .ok (.lreturn, 1) := by decide +kernel
theorem dX7_flow_17 : decode cX7_flow 17 = .ok (.aload_n 0, 1) := by decide +kernel
theorem dX7_flow_18 : decode cX7_flow 18 = .ok (.invokevirtual 79, 3) := by decide +kernel
theorem dX7_flow_21 : decode cX7_flow 21 = .ok (.aload_n 0, 1) := by decide +kernel
theorem dX7_flow_22 : decode cX7_flow 22 = .ok (.getfield 29, 3) := by decide +kernel
theorem dX7_flow_25 : decode cX7_flow 25 = .ok (.getfield 175, 3) := by decide +kernel
theorem dX7_flow_28 : decode cX7_flow 28 = .ok (.iload_n 1, 1) := by decide +kernel
theorem dX7_flow_29 : decode cX7_flow 29 = .ok (.laload, 1) := by decide +kernel
theorem dX7_flow_30 : decode cX7_flow 30 = .ok (.lreturn, 1) := by decide +kernel
theorem dX7_loss_0 : decode cX7_loss 0 = .ok (.aload_n 0, 1) := by decide +kernel
theorem dX7_loss_1 : decode cX7_loss 1 = .ok (.getfield 37, 3) := by decide +kernel
theorem dX7_loss_4 : decode cX7_loss 4 = .ok (.iload_n 1, 1) := by decide +kernel
theorem dX7_loss_5 : decode cX7_loss 5 = .ok (.invokevirtual 137, 3) := by decide +kernel
theorem dX7_loss_8 : decode cX7_loss 8 = .ok (.ifCond .ne 9, 3) := by decide +kernel
theorem dX7_loss_11 : decode cX7_loss 11 = .ok (.aload_n 0, 1) := by decide +kernel
theorem dX7_loss_12 : decode cX7_loss 12 = .ok (.iconst 1, 1) := by decide +kernel
theorem dX7_loss_13 : decode cX7_loss 13 = .ok (.invokevirtual 171, 3) := by decide +kernel
theorem dX7_loss_16 : decode cX7_loss 16 = .ok (.lreturn, 1) := by decide +kernel
theorem dX7_loss_17 : decode cX7_loss 17 = .ok (.aload_n 0, 1) := by decide +kernel
theorem dX7_loss_18 : decode cX7_loss 18 = .ok (.invokevirtual 79, 3) := by decide +kernel
theorem dX7_loss_21 : decode cX7_loss 21 = .ok (.aload_n 0, 1) := by decide +kernel
theorem dX7_loss_22 : decode cX7_loss 22 = .ok (.getfield 37, 3) := by decide +kernel
theorem dX7_loss_25 : decode cX7_loss 25 = .ok (.iload_n 1, 1) := by decide +kernel
theorem dX7_loss_26 : decode cX7_loss 26 = .ok (.aload_n 0, 1) := by decide +kernel
theorem dX7_loss_27 : decode cX7_loss 27 = .ok (.getfield 29, 3) := by decide +kernel
theorem dX7_loss_30 : decode cX7_loss 30 = .ok (.getfield 175, 3) := by decide +kernel
theorem dX7_loss_33 : decode cX7_loss 33 = .ok (.iload_n 1, 1) := by decide +kernel
theorem dX7_loss_34 : decode cX7_loss 34 = .ok (.laload, 1) := by decide +kernel
theorem dX7_loss_35 : decode cX7_loss 35 = .ok (.invokevirtual 179, 3) := by decide +kernel
theorem dX7_loss_38 : decode cX7_loss 38 = .ok (.lreturn, 1) := by decide +kernel
theorem dX7_joint_0 : decode cX7_joint 0 = .ok (.aload_n 0, 1) := by decide +kernel
theorem dX7_joint_1 : decode cX7_joint 1 = .ok (.getfield 37, 3) := by decide +kernel
theorem dX7_joint_4 : decode cX7_joint 4 = .ok (.iload_n 1, 1) := by decide +kernel
theorem dX7_joint_5 : decode cX7_joint 5 = .ok (.invokevirtual 183, 3) := by decide +kernel
theorem dX7_joint_8 : decode cX7_joint 8 = .ok (.ifCond .eq 12, 3) := by decide +kernel
theorem dX7_joint_11 : decode cX7_joint 11 = .ok (.iload_n 2, 1) := by decide +kernel
theorem dX7_joint_12 : decode cX7_joint 12 = .ok (.ifCond .lt 8, 3) := by decide +kernel
theorem dX7_joint_15 : decode cX7_joint 15 = .ok (.iload_n 2, 1) := by decide +kernel
theorem dX7_joint_16 : decode cX7_joint 16 = .ok (.iconst 3, 1) := by decide +kernel
theorem dX7_joint_17 : decode cX7_joint 17 = .ok (.if_icmp .le 9, 3) := by decide +kernel
theorem dX7_joint_20 : decode cX7_joint 20 = .ok (.aload_n 0, 1) := by decide +kernel
theorem dX7_joint_21 : decode cX7_joint 21 = .ok (.iconst 1, 1) := by decide +kernel
theorem dX7_joint_22 : decode cX7_joint 22 = .ok (.invokevirtual 65, 3) := by decide +kernel
theorem dX7_joint_25 : decode cX7_joint 25 = .ok (.ireturn, 1) := by decide +kernel
theorem dX7_joint_26 : decode cX7_joint 26 = .ok (.aload_n 0, 1) := by decide +kernel
theorem dX7_joint_27 : decode cX7_joint 27 = .ok (.invokevirtual 79, 3) := by decide +kernel
theorem dX7_joint_30 : decode cX7_joint 30 = .ok (.iload_n 2, 1) := by decide +kernel
theorem dX7_joint_31 : decode cX7_joint 31 = .ok (.tableswitch 61 0 2 #[25, 35, 48], 25) := by decide +kernel
theorem dX7_joint_56 : decode cX7_joint 56 = .ok (.aload_n 0, 1) := by decide +kernel
theorem dX7_joint_57 : decode cX7_joint 57 = .ok (.getfield 37, 3) := by decide +kernel
theorem dX7_joint_60 : decode cX7_joint 60 = .ok (.getfield 186, 3) := by decide +kernel
theorem dX7_joint_63 : decode cX7_joint 63 = .ok (.iload_n 1, 1) := by decide +kernel
theorem dX7_joint_64 : decode cX7_joint 64 = .ok (.iaload, 1) := by decide +kernel
theorem dX7_joint_65 : decode cX7_joint 65 = .ok (.ireturn, 1) := by decide +kernel
theorem dX7_joint_66 : decode cX7_joint 66 = .ok (.bipush 100, 2) := by decide +kernel
theorem dX7_joint_68 : decode cX7_joint 68 = .ok (.aload_n 0, 1) := by decide +kernel
theorem dX7_joint_69 : decode cX7_joint 69 = .ok (.getfield 37, 3) := by decide +kernel
theorem dX7_joint_72 : decode cX7_joint 72 = .ok (.getfield 189, 3) := by decide +kernel
theorem dX7_joint_75 : decode cX7_joint 75 = .ok (.iload_n 1, 1) := by decide +kernel
theorem dX7_joint_76 : decode cX7_joint 76 = .ok (.iaload, 1) := by decide +kernel
theorem dX7_joint_77 : decode cX7_joint 77 = .ok (.imul, 1) := by decide +kernel
theorem dX7_joint_78 : decode cX7_joint 78 = .ok (.ireturn, 1) := by decide +kernel
theorem dX7_joint_79 : decode cX7_joint 79 = .ok (.aload_n 0, 1) := by decide +kernel
theorem dX7_joint_80 : decode cX7_joint 80 = .ok (.getfield 29, 3) := by decide +kernel
theorem dX7_joint_83 : decode cX7_joint 83 = .ok (.getfield 161, 3) := by decide +kernel
theorem dX7_joint_86 : decode cX7_joint 86 = .ok (.getfield 192, 3) := by decide +kernel
theorem dX7_joint_89 : decode cX7_joint 89 = .ok (.iload_n 1, 1) := by decide +kernel
theorem dX7_joint_90 : decode cX7_joint 90 = .ok (.iaload, 1) := by decide +kernel
theorem dX7_joint_91 : decode cX7_joint 91 = .ok (.ireturn, 1) := by decide +kernel
theorem dX7_joint_92 : decode cX7_joint 92 = .ok (.aload_n 0, 1) := by decide +kernel
theorem dX7_joint_93 : decode cX7_joint 93 = .ok (.getfield 37, 3) := by decide +kernel
theorem dX7_joint_96 : decode cX7_joint 96 = .ok (.iload_n 1, 1) := by decide +kernel
theorem dX7_joint_97 : decode cX7_joint 97 = .ok (.invokevirtual 195, 3) := by decide +kernel
theorem dX7_joint_100 : decode cX7_joint 100 = .ok (.ireturn, 1) := by decide +kernel
theorem dX7_head_0 : decode cX7_head 0 = .ok (.aload_n 0, 1) := by decide +kernel
theorem dX7_head_1 : decode cX7_head 1 = .ok (.iload_n 1, 1) := by decide +kernel
theorem dX7_head_2 : decode cX7_head 2 = .ok (.invokevirtual 198, 3) := by decide +kernel
theorem dX7_head_5 : decode cX7_head 5 = .ok (.istore_n 2, 1) := by decide +kernel
theorem dX7_head_6 : decode cX7_head 6 = .ok (.iload_n 2, 1) := by decide +kernel
theorem dX7_head_7 : decode cX7_head 7 = .ok (.ifCond .eq 9, 3) := by decide +kernel
theorem dX7_head_10 : decode cX7_head 10 = .ok (.aload_n 0, 1) := by decide +kernel
theorem dX7_head_11 : decode cX7_head 11 = .ok (.iload_n 2, 1) := by decide +kernel
theorem dX7_head_12 : decode cX7_head 12 = .ok (.invokevirtual 171, 3) := by decide +kernel
theorem dX7_head_15 : decode cX7_head 15 = .ok (.lreturn, 1) := by decide +kernel
theorem dX7_head_16 : decode cX7_head 16 = .ok (.aload_n 0, 1) := by decide +kernel
theorem dX7_head_17 : decode cX7_head 17 = .ok (.invokevirtual 79, 3) := by decide +kernel
theorem dX7_head_20 : decode cX7_head 20 = .ok (.aload_n 0, 1) := by decide +kernel
theorem dX7_head_21 : decode cX7_head 21 = .ok (.getfield 29, 3) := by decide +kernel
theorem dX7_head_24 : decode cX7_head 24 = .ok (.getfield 201, 3) := by decide +kernel
theorem dX7_head_27 : decode cX7_head 27 = .ok (.iload_n 1, 1) := by decide +kernel
theorem dX7_head_28 : decode cX7_head 28 = .ok (.laload, 1) := by decide +kernel
theorem dX7_head_29 : decode cX7_head 29 = .ok (.lreturn, 1) := by decide +kernel
theorem dX7_pressure_0 : decode cX7_pressure 0 = .ok (.aload_n 0, 1) := by decide +kernel
theorem dX7_pressure_1 : decode cX7_pressure 1 = .ok (.iload_n 1, 1) := by decide +kernel
theorem dX7_pressure_2 : decode cX7_pressure 2 = .ok (.invokevirtual 198, 3) := by decide +kernel
theorem dX7_pressure_5 : decode cX7_pressure 5 = .ok (.istore_n 2, 1) := by decide +kernel
theorem dX7_pressure_6 : decode cX7_pressure 6 = .ok (.iload_n 2, 1) := by decide +kernel
theorem dX7_pressure_7 : decode cX7_pressure 7 = .ok (.ifCond .eq 9, 3) := by decide +kernel
theorem dX7_pressure_10 : decode cX7_pressure 10 = .ok (.aload_n 0, 1) := by decide +kernel
theorem dX7_pressure_11 : decode cX7_pressure 11 = .ok (.iload_n 2, 1) := by decide +kernel
theorem dX7_pressure_12 : decode cX7_pressure 12 = .ok (.invokevirtual 171, 3) := by decide +kernel
theorem dX7_pressure_15 : decode cX7_pressure 15 = .ok (.lreturn, 1) := by decide +kernel
theorem dX7_pressure_16 : decode cX7_pressure 16 = .ok (.aload_n 0, 1) := by decide +kernel
theorem dX7_pressure_17 : decode cX7_pressure 17 = .ok (.invokevirtual 79, 3) := by decide +kernel
theorem dX7_pressure_20 : decode cX7_pressure 20 = .ok (.aload_n 0, 1) := by decide +kernel
theorem dX7_pressure_21 : decode cX7_pressure 21 = .ok (.getfield 29, 3) := by decide +kernel
theorem dX7_pressure_24 : decode cX7_pressure 24 = .ok (.iload_n 1, 1) := by decide +kernel
theorem dX7_pressure_25 : decode cX7_pressure 25 = .ok (.invokevirtual 204, 3) := by decide +kernel
theorem dX7_pressure_28 : decode cX7_pressure 28 = .ok (.lreturn, 1) := by decide +kernel
theorem dX7_weakest_0 : decode cX7_weakest 0 = .ok (.aload_n 0, 1) := by decide +kernel
theorem dX7_weakest_1 : decode cX7_weakest 1 = .ok (.invokevirtual 101, 3) := by decide +kernel
theorem dX7_weakest_4 : decode cX7_weakest 4 = .ok (.ifCond .ne 9, 3) := by decide +kernel
theorem dX7_weakest_7 : decode cX7_weakest 7 = .ok (.aload_n 0, 1) := by decide +kernel
theorem dX7_weakest_8 : decode cX7_weakest 8 = .ok (.iconst 1, 1) := by decide +kernel
theorem dX7_weakest_9 : decode cX7_weakest 9 = .ok (.invokevirtual 65, 3) := by decide +kernel
theorem dX7_weakest_12 : decode cX7_weakest 12 = .ok (.ireturn, 1) := by decide +kernel
theorem dX7_weakest_13 : decode cX7_weakest 13 = .ok (.aload_n 0, 1) := by decide +kernel
theorem dX7_weakest_14 : decode cX7_weakest 14 = .ok (.invokevirtual 79, 3) := by decide +kernel
theorem dX7_weakest_17 : decode cX7_weakest 17 = .ok (.aload_n 0, 1) := by decide +kernel
theorem dX7_weakest_18 : decode cX7_weakest 18 = .ok (.getfield 29, 3) := by decide +kernel
theorem dX7_weakest_21 : decode cX7_weakest 21 = .ok (.invokevirtual 207, 3) := by decide +kernel
theorem dX7_weakest_24 : decode cX7_weakest 24 = .ok (.ireturn, 1) := by decide +kernel
theorem dX7_ring_0 : decode cX7_ring 0 = .ok (.aload_n 0, 1) := by decide +kernel
theorem dX7_ring_1 : decode cX7_ring 1 = .ok (.iload_n 1, 1) := by decide +kernel
theorem dX7_ring_2 : decode cX7_ring 2 = .ok (.invokevirtual 210, 3) := by decide +kernel
theorem dX7_ring_5 : decode cX7_ring 5 = .ok (.ifCond .eq 7, 3) := by decide +kernel
theorem dX7_ring_8 : decode cX7_ring 8 = .ok (.iload_n 2, 1) := by decide +kernel
theorem dX7_ring_9 : decode cX7_ring 9 = .ok (.ifCond .ge 9, 3) := by decide +kernel
theorem dX7_ring_12 : decode cX7_ring 12 = .ok (.aload_n 0, 1) := by decide +kernel
theorem dX7_ring_13 : decode cX7_ring 13 = .ok (.iconst 1, 1) := by decide +kernel
theorem dX7_ring_14 : decode cX7_ring 14 = .ok (.invokevirtual 65, 3) := by decide +kernel
theorem dX7_ring_17 : decode cX7_ring 17 = .ok (.ireturn, 1) := by decide +kernel
theorem dX7_ring_18 : decode cX7_ring 18 = .ok (.aload_n 0, 1) := by decide +kernel
theorem dX7_ring_19 : decode cX7_ring 19 = .ok (.invokevirtual 79, 3) := by decide +kernel
theorem dX7_ring_22 : decode cX7_ring 22 = .ok (.aload_n 0, 1) := by decide +kernel
theorem dX7_ring_23 : decode cX7_ring 23 = .ok (.getfield 29, 3) := by decide +kernel
theorem dX7_ring_26 : decode cX7_ring 26 = .ok (.getfield 108, 3) := by decide +kernel
theorem dX7_ring_29 : decode cX7_ring 29 = .ok (.iload_n 1, 1) := by decide +kernel
theorem dX7_ring_30 : decode cX7_ring 30 = .ok (.iload_n 2, 1) := by decide +kernel
theorem dX7_ring_31 : decode cX7_ring 31 = .ok (.invokevirtual 213, 3) := by decide +kernel
theorem dX7_ring_34 : decode cX7_ring 34 = .ok (.ireturn, 1) := by decide +kernel
theorem dX7_sum_0 : decode cX7_sum 0 = .ok (.aload_n 0, 1) := by decide +kernel
theorem dX7_sum_1 : decode cX7_sum 1 = .ok (.iload_n 1, 1) := by decide +kernel
theorem dX7_sum_2 : decode cX7_sum 2 = .ok (.invokevirtual 210, 3) := by decide +kernel
theorem dX7_sum_5 : decode cX7_sum 5 = .ok (.ifCond .eq 12, 3) := by decide +kernel
theorem dX7_sum_8 : decode cX7_sum 8 = .ok (.iload_n 2, 1) := by decide +kernel
theorem dX7_sum_9 : decode cX7_sum 9 = .ok (.ifCond .lt 8, 3) := by decide +kernel
theorem dX7_sum_12 : decode cX7_sum 12 = .ok (.iload_n 2, 1) := by decide +kernel
theorem dX7_sum_13 : decode cX7_sum 13 = .ok (.iconst 1, 1) := by decide +kernel
theorem dX7_sum_14 : decode cX7_sum 14 = .ok (.if_icmp .le 9, 3) := by decide +kernel
theorem dX7_sum_17 : decode cX7_sum 17 = .ok (.aload_n 0, 1) := by decide +kernel
theorem dX7_sum_18 : decode cX7_sum 18 = .ok (.iconst 1, 1) := by decide +kernel
theorem dX7_sum_19 : decode cX7_sum 19 = .ok (.invokevirtual 171, 3) := by decide +kernel
theorem dX7_sum_22 : decode cX7_sum 22 = .ok (.lreturn, 1) := by decide +kernel
theorem dX7_sum_23 : decode cX7_sum 23 = .ok (.aload_n 0, 1) := by decide +kernel
theorem dX7_sum_24 : decode cX7_sum 24 = .ok (.invokevirtual 79, 3) := by decide +kernel
theorem dX7_sum_27 : decode cX7_sum 27 = .ok (.iload_n 2, 1) := by decide +kernel
theorem dX7_sum_28 : decode cX7_sum 28 = .ok (.ifCond .ne 14, 3) := by decide +kernel
theorem dX7_sum_31 : decode cX7_sum 31 = .ok (.aload_n 0, 1) := by decide +kernel
theorem dX7_sum_32 : decode cX7_sum 32 = .ok (.getfield 29, 3) := by decide +kernel
theorem dX7_sum_35 : decode cX7_sum 35 = .ok (.iload_n 1, 1) := by decide +kernel
theorem dX7_sum_36 : decode cX7_sum 36 = .ok (.invokevirtual 216, 3) := by decide +kernel
theorem dX7_sum_39 : decode cX7_sum 39 = .ok (.goto 11, 3) := by decide +kernel
theorem dX7_sum_42 : decode cX7_sum 42 = .ok (.aload_n 0, 1) := by decide +kernel
theorem dX7_sum_43 : decode cX7_sum 43 = .ok (.getfield 29, 3) := by decide +kernel
theorem dX7_sum_46 : decode cX7_sum 46 = .ok (.iload_n 1, 1) := by decide +kernel
theorem dX7_sum_47 : decode cX7_sum 47 = .ok (.invokevirtual 219, 3) := by decide +kernel
theorem dX7_sum_50 : decode cX7_sum 50 = .ok (.lreturn, 1) := by decide +kernel
theorem dX7_early_0 : decode cX7_early 0 = .ok (.aload_n 0, 1) := by decide +kernel
theorem dX7_early_1 : decode cX7_early 1 = .ok (.getfield 37, 3) := by decide +kernel
theorem dX7_early_4 : decode cX7_early 4 = .ok (.iload_n 1, 1) := by decide +kernel
theorem dX7_early_5 : decode cX7_early 5 = .ok (.invokevirtual 137, 3) := by decide +kernel
theorem dX7_early_8 : decode cX7_early 8 = .ok (.ifCond .ne 9, 3) := by decide +kernel
theorem dX7_early_11 : decode cX7_early 11 = .ok (.aload_n 0, 1) := by decide +kernel
theorem dX7_early_12 : decode cX7_early 12 = .ok (.iconst 1, 1) := by decide +kernel
theorem dX7_early_13 : decode cX7_early 13 = .ok (.invokevirtual 171, 3) := by decide +kernel
theorem dX7_early_16 : decode cX7_early 16 = .ok (.lreturn, 1) := by decide +kernel
theorem dX7_early_17 : decode cX7_early 17 = .ok (.iload_n 2, 1) := by decide +kernel
theorem dX7_early_18 : decode cX7_early 18 = .ok (.ifCond .lt 9, 3) := by decide +kernel
theorem dX7_early_21 : decode cX7_early 21 = .ok (.iload_n 2, 1) := by decide +kernel
theorem dX7_early_22 : decode cX7_early 22 = .ok (.bipush 60, 2) := by decide +kernel
theorem dX7_early_24 : decode cX7_early 24 = .ok (.if_icmp .le 9, 3) := by decide +kernel
theorem dX7_early_27 : decode cX7_early 27 = .ok (.aload_n 0, 1) := by decide +kernel
theorem dX7_early_28 : decode cX7_early 28 = .ok (.iconst 2, 1) := by decide +kernel
theorem dX7_early_29 : decode cX7_early 29 = .ok (.invokevirtual 171, 3) := by decide +kernel
theorem dX7_early_32 : decode cX7_early 32 = .ok (.lreturn, 1) := by decide +kernel
theorem dX7_early_33 : decode cX7_early 33 = .ok (.aload_n 0, 1) := by decide +kernel
theorem dX7_early_34 : decode cX7_early 34 = .ok (.invokevirtual 79, 3) := by decide +kernel
theorem dX7_early_37 : decode cX7_early 37 = .ok (.aload_n 0, 1) := by decide +kernel
theorem dX7_early_38 : decode cX7_early 38 = .ok (.getfield 41, 3) := by decide +kernel
theorem dX7_early_41 : decode cX7_early 41 = .ok (.aload_n 0, 1) := by decide +kernel
theorem dX7_early_42 : decode cX7_early 42 = .ok (.getfield 37, 3) := by decide +kernel
theorem dX7_early_45 : decode cX7_early 45 = .ok (.invokevirtual 83, 3) := by decide +kernel
theorem dX7_early_48 : decode cX7_early 48 = .ok (.aload_n 0, 1) := by decide +kernel
theorem dX7_early_49 : decode cX7_early 49 = .ok (.getfield 38, 3) := by decide +kernel
theorem dX7_early_52 : decode cX7_early 52 = .ok (.iload_n 2, 1) := by decide +kernel
theorem dX7_early_53 : decode cX7_early 53 = .ok (.invokevirtual 222, 3) := by decide +kernel
theorem dX7_early_56 : decode cX7_early 56 = .ok (.aload_n 0, 1) := by decide +kernel
theorem dX7_early_57 : decode cX7_early 57 = .ok (.getfield 38, 3) := by decide +kernel
theorem dX7_early_60 : decode cX7_early 60 = .ok (.getfield 175, 3) := by decide +kernel
theorem dX7_early_63 : decode cX7_early 63 = .ok (.iload_n 1, 1) := by decide +kernel
theorem dX7_early_64 : decode cX7_early 64 = .ok (.laload, 1) := by decide +kernel
theorem dX7_early_65 : decode cX7_early 65 = .ok (.lreturn, 1) := by decide +kernel
theorem dX7_work_0 : decode cX7_work 0 = .ok (.aload_n 0, 1) := by decide +kernel
theorem dX7_work_1 : decode cX7_work 1 = .ok (.invokevirtual 101, 3) := by decide +kernel
theorem dX7_work_4 : decode cX7_work 4 = .ok (.ifCond .ne 9, 3) := by decide +kernel
theorem dX7_work_7 : decode cX7_work 7 = .ok (.aload_n 0, 1) := by decide +kernel
theorem dX7_work_8 : decode cX7_work 8 = .ok (.iconst 1, 1) := by decide +kernel
theorem dX7_work_9 : decode cX7_work 9 = .ok (.invokevirtual 171, 3) := by decide +kernel
theorem dX7_work_12 : decode cX7_work 12 = .ok (.lreturn, 1) := by decide +kernel
theorem dX7_work_13 : decode cX7_work 13 = .ok (.aload_n 0, 1) := by decide +kernel
theorem dX7_work_14 : decode cX7_work 14 = .ok (.invokevirtual 79, 3) := by decide +kernel
theorem dX7_work_17 : decode cX7_work 17 = .ok (.aload_n 0, 1) := by decide +kernel
theorem dX7_work_18 : decode cX7_work 18 = .ok (.getfield 29, 3) := by decide +kernel
theorem dX7_work_21 : decode cX7_work 21 = .ok (.invokevirtual 225, 3) := by decide +kernel
theorem dX7_work_24 : decode cX7_work 24 = .ok (.lreturn, 1) := by decide +kernel
theorem dX7_gap_0 : decode cX7_gap 0 = .ok (.aload_n 0, 1) := by decide +kernel
theorem dX7_gap_1 : decode cX7_gap 1 = .ok (.invokevirtual 101, 3) := by decide +kernel
theorem dX7_gap_4 : decode cX7_gap 4 = .ok (.ifCond .ne 9, 3) := by decide +kernel
theorem dX7_gap_7 : decode cX7_gap 7 = .ok (.aload_n 0, 1) := by decide +kernel
theorem dX7_gap_8 : decode cX7_gap 8 = .ok (.iconst 1, 1) := by decide +kernel
theorem dX7_gap_9 : decode cX7_gap 9 = .ok (.invokevirtual 171, 3) := by decide +kernel
theorem dX7_gap_12 : decode cX7_gap 12 = .ok (.lreturn, 1) := by decide +kernel
theorem dX7_gap_13 : decode cX7_gap 13 = .ok (.iload_n 1, 1) := by decide +kernel
theorem dX7_gap_14 : decode cX7_gap 14 = .ok (.ifCond .lt 9, 3) := by decide +kernel
theorem dX7_gap_17 : decode cX7_gap 17 = .ok (.iload_n 1, 1) := by decide +kernel
theorem dX7_gap_18 : decode cX7_gap 18 = .ok (.bipush 60, 2) := by decide +kernel
theorem dX7_gap_20 : decode cX7_gap 20 = .ok (.if_icmp .le 9, 3) := by decide +kernel
theorem dX7_gap_23 : decode cX7_gap 23 = .ok (.aload_n 0, 1) := by decide +kernel
theorem dX7_gap_24 : decode cX7_gap 24 = .ok (.iconst 2, 1) := by decide +kernel
theorem dX7_gap_25 : decode cX7_gap 25 = .ok (.invokevirtual 171, 3) := by decide +kernel
theorem dX7_gap_28 : decode cX7_gap 28 = .ok (.lreturn, 1) := by decide +kernel
theorem dX7_gap_29 : decode cX7_gap 29 = .ok (.aload_n 0, 1) := by decide +kernel
theorem dX7_gap_30 : decode cX7_gap 30 = .ok (.invokevirtual 79, 3) := by decide +kernel
theorem dX7_gap_33 : decode cX7_gap 33 = .ok (.aload_n 0, 1) := by decide +kernel
theorem dX7_gap_34 : decode cX7_gap 34 = .ok (.getfield 41, 3) := by decide +kernel
theorem dX7_gap_37 : decode cX7_gap 37 = .ok (.aload_n 0, 1) := by decide +kernel
theorem dX7_gap_38 : decode cX7_gap 38 = .ok (.getfield 37, 3) := by decide +kernel
theorem dX7_gap_41 : decode cX7_gap 41 = .ok (.invokevirtual 83, 3) := by decide +kernel
theorem dX7_gap_44 : decode cX7_gap 44 = .ok (.aload_n 0, 1) := by decide +kernel
theorem dX7_gap_45 : decode cX7_gap 45 = .ok (.getfield 38, 3) := by decide +kernel
theorem dX7_gap_48 : decode cX7_gap 48 = .ok (.iload_n 1, 1) := by decide +kernel
theorem dX7_gap_49 : decode cX7_gap 49 = .ok (.invokevirtual 222, 3) := by decide +kernel
theorem dX7_gap_52 : decode cX7_gap 52 = .ok (.aload_n 0, 1) := by decide +kernel
theorem dX7_gap_53 : decode cX7_gap 53 = .ok (.getfield 38, 3) := by decide +kernel
theorem dX7_gap_56 : decode cX7_gap 56 = .ok (.invokevirtual 229, 3) := by decide +kernel
theorem dX7_gap_59 : decode cX7_gap 59 = .ok (.lreturn, 1) := by decide +kernel
theorem dX7_balance_0 : decode cX7_balance 0 = .ok (.aload_n 0, 1) := by decide +kernel
theorem dX7_balance_1 : decode cX7_balance 1 = .ok (.iload_n 1, 1) := by decide +kernel
theorem dX7_balance_2 : decode cX7_balance 2 = .ok (.invokevirtual 232, 3) := by decide +kernel
theorem dX7_balance_5 : decode cX7_balance 5 = .ok (.ifCond .ne 9, 3) := by decide +kernel
theorem dX7_balance_8 : decode cX7_balance 8 = .ok (.aload_n 0, 1) := by decide +kernel
theorem dX7_balance_9 : decode cX7_balance 9 = .ok (.iconst 1, 1) := by decide +kernel
theorem dX7_balance_10 : decode cX7_balance 10 = .ok (.invokevirtual 171, 3) := by decide +kernel
theorem dX7_balance_13 : decode cX7_balance 13 = .ok (.lreturn, 1) := by decide +kernel
theorem dX7_balance_14 : decode cX7_balance 14 = .ok (.aload_n 0, 1) := by decide +kernel
theorem dX7_balance_15 : decode cX7_balance 15 = .ok (.invokevirtual 79, 3) := by decide +kernel
theorem dX7_balance_18 : decode cX7_balance 18 = .ok (.aload_n 0, 1) := by decide +kernel
theorem dX7_balance_19 : decode cX7_balance 19 = .ok (.getfield 29, 3) := by decide +kernel
theorem dX7_balance_22 : decode cX7_balance 22 = .ok (.iload_n 1, 1) := by decide +kernel
theorem dX7_balance_23 : decode cX7_balance 23 = .ok (.invokevirtual 235, 3) := by decide +kernel
theorem dX7_balance_26 : decode cX7_balance 26 = .ok (.lreturn, 1) := by decide +kernel
theorem dX7_lossAt_0 : decode cX7_lossAt 0 = .ok (.aload_n 0, 1) := by decide +kernel
theorem dX7_lossAt_1 : decode cX7_lossAt 1 = .ok (.getfield 37, 3) := by decide +kernel
theorem dX7_lossAt_4 : decode cX7_lossAt 4 = .ok (.iload_n 1, 1) := by decide +kernel
theorem dX7_lossAt_5 : decode cX7_lossAt 5 = .ok (.invokevirtual 137, 3) := by decide +kernel
theorem dX7_lossAt_8 : decode cX7_lossAt 8 = .ok (.ifCond .eq 12, 3) := by decide +kernel
theorem dX7_lossAt_11 : decode cX7_lossAt 11 = .ok (.iload_n 3, 1) := by decide +kernel
theorem dX7_lossAt_12 : decode cX7_lossAt 12 = .ok (.ifCond .lt 8, 3) := by decide +kernel
theorem dX7_lossAt_15 : decode cX7_lossAt 15 = .ok (.iload_n 3, 1) := by decide +kernel
theorem dX7_lossAt_16 : decode cX7_lossAt 16 = .ok (.iconst 1, 1) := by decide +kernel
theorem dX7_lossAt_17 : decode cX7_lossAt 17 = .ok (.if_icmp .le 9, 3) := by decide +kernel
theorem dX7_lossAt_20 : decode cX7_lossAt 20 = .ok (.aload_n 0, 1) := by decide +kernel
theorem dX7_lossAt_21 : decode cX7_lossAt 21 = .ok (.iconst 1, 1) := by decide +kernel
theorem dX7_lossAt_22 : decode cX7_lossAt 22 = .ok (.invokevirtual 171, 3) := by decide +kernel
theorem dX7_lossAt_25 : decode cX7_lossAt 25 = .ok (.lreturn, 1) := by decide +kernel
theorem dX7_lossAt_26 : decode cX7_lossAt 26 = .ok (.iload_n 2, 1) := by decide +kernel
theorem dX7_lossAt_27 : decode cX7_lossAt 27 = .ok (.sipush (-10000), 3) := by decide +kernel
theorem dX7_lossAt_30 : decode cX7_lossAt 30 = .ok (.if_icmp .lt 10, 3) := by decide +kernel
theorem dX7_lossAt_33 : decode cX7_lossAt 33 = .ok (.iload_n 2, 1) := by decide +kernel
theorem dX7_lossAt_34 : decode cX7_lossAt 34 = .ok (.sipush 10000, 3) := by decide +kernel
theorem dX7_lossAt_37 : decode cX7_lossAt 37 = .ok (.if_icmp .le 9, 3) := by decide +kernel
theorem dX7_lossAt_40 : decode cX7_lossAt 40 = .ok (.aload_n 0, 1) := by decide +kernel
theorem dX7_lossAt_41 : decode cX7_lossAt 41 = .ok (.iconst 2, 1) := by decide +kernel
theorem dX7_lossAt_42 : decode cX7_lossAt 42 = .ok (.invokevirtual 171, 3) := by decide +kernel
theorem dX7_lossAt_45 : decode cX7_lossAt 45 = .ok (.lreturn, 1) := by decide +kernel
theorem dX7_lossAt_46 : decode cX7_lossAt 46 = .ok (.aload_n 0, 1) := by decide +kernel
theorem dX7_lossAt_47 : decode cX7_lossAt 47 = .ok (.invokevirtual 79, 3) := by decide +kernel
theorem dX7_lossAt_50 : decode cX7_lossAt 50 = .ok (.iload_n 3, 1) := by decide +kernel
theorem dX7_lossAt_51 : decode cX7_lossAt 51 = .ok (.ifCond .ne 16, 3) := by decide +kernel
theorem dX7_lossAt_54 : decode cX7_lossAt 54 = .ok (.aload_n 0, 1) := by decide +kernel
theorem dX7_lossAt_55 : decode cX7_lossAt 55 = .ok (.getfield 37, 3) := by decide +kernel
theorem dX7_lossAt_58 : decode cX7_lossAt 58 = .ok (.iload_n 1, 1) := by decide +kernel
theorem dX7_lossAt_59 : decode cX7_lossAt 59 = .ok (.iload_n 2, 1) := by decide +kernel
theorem dX7_lossAt_60 : decode cX7_lossAt 60 = .ok (.i2l, 1) := by decide +kernel
theorem dX7_lossAt_61 : decode cX7_lossAt 61 = .ok (.invokevirtual 179, 3) := by decide +kernel
theorem dX7_lossAt_64 : decode cX7_lossAt 64 = .ok (.goto 13, 3) := by decide +kernel
theorem dX7_lossAt_67 : decode cX7_lossAt 67 = .ok (.aload_n 0, 1) := by decide +kernel
theorem dX7_lossAt_68 : decode cX7_lossAt 68 = .ok (.getfield 37, 3) := by decide +kernel
theorem dX7_lossAt_71 : decode cX7_lossAt 71 = .ok (.iload_n 1, 1) := by decide +kernel
theorem dX7_lossAt_72 : decode cX7_lossAt 72 = .ok (.iload_n 2, 1) := by decide +kernel
theorem dX7_lossAt_73 : decode cX7_lossAt 73 = .ok (.i2l, 1) := by decide +kernel
theorem dX7_lossAt_74 : decode cX7_lossAt 74 = .ok (.invokevirtual 238, 3) := by decide +kernel
theorem dX7_lossAt_77 : decode cX7_lossAt 77 = .ok (.lreturn, 1) := by decide +kernel
theorem dX7_behind_0 : decode cX7_behind 0 = .ok (.aload_n 0, 1) := by decide +kernel
theorem dX7_behind_1 : decode cX7_behind 1 = .ok (.getfield 37, 3) := by decide +kernel
theorem dX7_behind_4 : decode cX7_behind 4 = .ok (.iload_n 1, 1) := by decide +kernel
theorem dX7_behind_5 : decode cX7_behind 5 = .ok (.invokevirtual 183, 3) := by decide +kernel
theorem dX7_behind_8 : decode cX7_behind 8 = .ok (.ifCond .ne 9, 3) := by decide +kernel
theorem dX7_behind_11 : decode cX7_behind 11 = .ok (.aload_n 0, 1) := by decide +kernel
theorem dX7_behind_12 : decode cX7_behind 12 = .ok (.iconst 1, 1) := by decide +kernel
theorem dX7_behind_13 : decode cX7_behind 13 = .ok (.invokevirtual 65, 3) := by decide +kernel
theorem dX7_behind_16 : decode cX7_behind 16 = .ok (.ireturn, 1) := by decide +kernel
theorem dX7_behind_17 : decode cX7_behind 17 = .ok (.aload_n 0, 1) := by decide +kernel
theorem dX7_behind_18 : decode cX7_behind 18 = .ok (.invokevirtual 79, 3) := by decide +kernel
theorem dX7_behind_21 : decode cX7_behind 21 = .ok (.aload_n 0, 1) := by decide +kernel
theorem dX7_behind_22 : decode cX7_behind 22 = .ok (.getfield 29, 3) := by decide +kernel
theorem dX7_behind_25 : decode cX7_behind 25 = .ok (.getfield 161, 3) := by decide +kernel
theorem dX7_behind_28 : decode cX7_behind 28 = .ok (.iload_n 1, 1) := by decide +kernel
theorem dX7_behind_29 : decode cX7_behind 29 = .ok (.invokevirtual 241, 3) := by decide +kernel
theorem dX7_behind_32 : decode cX7_behind 32 = .ok (.ireturn, 1) := by decide +kernel
theorem dX7_scaled_0 : decode cX7_scaled 0 = .ok (.aload_n 0, 1) := by decide +kernel
theorem dX7_scaled_1 : decode cX7_scaled 1 = .ok (.invokevirtual 101, 3) := by decide +kernel
theorem dX7_scaled_4 : decode cX7_scaled 4 = .ok (.ifCond .ne 9, 3) := by decide +kernel
theorem dX7_scaled_7 : decode cX7_scaled 7 = .ok (.aload_n 0, 1) := by decide +kernel
theorem dX7_scaled_8 : decode cX7_scaled 8 = .ok (.iconst 1, 1) := by decide +kernel
theorem dX7_scaled_9 : decode cX7_scaled 9 = .ok (.invokevirtual 171, 3) := by decide +kernel
theorem dX7_scaled_12 : decode cX7_scaled 12 = .ok (.lreturn, 1) := by decide +kernel
theorem dX7_scaled_13 : decode cX7_scaled 13 = .ok (.iload_n 1, 1) := by decide +kernel
theorem dX7_scaled_14 : decode cX7_scaled 14 = .ok (.ifCond .lt 10, 3) := by decide +kernel
theorem dX7_scaled_17 : decode cX7_scaled 17 = .ok (.iload_n 1, 1) := by decide +kernel
theorem dX7_scaled_18 : decode cX7_scaled 18 = .ok (.sipush 300, 3) := by decide +kernel
theorem dX7_scaled_21 : decode cX7_scaled 21 = .ok (.if_icmp .le 9, 3) := by decide +kernel
theorem dX7_scaled_24 : decode cX7_scaled 24 = .ok (.aload_n 0, 1) := by decide +kernel
theorem dX7_scaled_25 : decode cX7_scaled 25 = .ok (.iconst 2, 1) := by decide +kernel
theorem dX7_scaled_26 : decode cX7_scaled 26 = .ok (.invokevirtual 171, 3) := by decide +kernel
theorem dX7_scaled_29 : decode cX7_scaled 29 = .ok (.lreturn, 1) := by decide +kernel
theorem dX7_scaled_30 : decode cX7_scaled 30 = .ok (.aload_n 0, 1) := by decide +kernel
theorem dX7_scaled_31 : decode cX7_scaled 31 = .ok (.getfield 41, 3) := by decide +kernel
theorem dX7_scaled_34 : decode cX7_scaled 34 = .ok (.aload_n 0, 1) := by decide +kernel
theorem dX7_scaled_35 : decode cX7_scaled 35 = .ok (.getfield 37, 3) := by decide +kernel
theorem dX7_scaled_38 : decode cX7_scaled 38 = .ok (.invokevirtual 83, 3) := by decide +kernel
theorem dX7_scaled_41 : decode cX7_scaled 41 = .ok (.aload_n 0, 1) := by decide +kernel
theorem dX7_scaled_42 : decode cX7_scaled 42 = .ok (.getfield 41, 3) := by decide +kernel
theorem dX7_scaled_45 : decode cX7_scaled 45 = .ok (.aload_n 0, 1) := by decide +kernel
theorem dX7_scaled_46 : decode cX7_scaled 46 = .ok (.getfield 37, 3) := by decide +kernel
theorem dX7_scaled_49 : decode cX7_scaled 49 = .ok (.iload_n 1, 1) := by decide +kernel
theorem dX7_scaled_50 : decode cX7_scaled 50 = .ok (.invokevirtual 244, 3) := by decide +kernel
theorem dX7_scaled_53 : decode cX7_scaled 53 = .ok (.pop, 1) := by decide +kernel
theorem dX7_scaled_54 : decode cX7_scaled 54 = .ok (.aload_n 0, 1) := by decide +kernel
theorem dX7_scaled_55 : decode cX7_scaled 55 = .ok (.getfield 38, 3) := by decide +kernel
theorem dX7_scaled_58 : decode cX7_scaled 58 = .ok (.invokevirtual 248, 3) := by decide +kernel
theorem dX7_scaled_61 : decode cX7_scaled 61 = .ok (.aload_n 0, 1) := by decide +kernel
theorem dX7_scaled_62 : decode cX7_scaled 62 = .ok (.getfield 38, 3) := by decide +kernel
theorem dX7_scaled_65 : decode cX7_scaled 65 = .ok (.invokevirtual 251, 3) := by decide +kernel
theorem dX7_scaled_68 : decode cX7_scaled 68 = .ok (.lstore_n 2, 1) := by decide +kernel
theorem dX7_scaled_69 : decode cX7_scaled 69 = .ok (.lload_n 2, 1) := by decide +kernel
theorem dX7_scaled_70 : decode cX7_scaled 70 = .ok (.ldc2_w 254, 3) := by decide +kernel
theorem dX7_scaled_73 : decode cX7_scaled 73 = .ok (.lcmp, 1) := by decide +kernel
theorem dX7_scaled_74 : decode cX7_scaled 74 = .ok (.ifCond .ne 9, 3) := by decide +kernel
theorem dX7_scaled_77 : decode cX7_scaled 77 = .ok (.aload_n 0, 1) := by decide +kernel
theorem dX7_scaled_78 : decode cX7_scaled 78 = .ok (.iconst 5, 1) := by decide +kernel
theorem dX7_scaled_79 : decode cX7_scaled 79 = .ok (.invokevirtual 171, 3) := by decide +kernel
theorem dX7_scaled_82 : decode cX7_scaled 82 = .ok (.lreturn, 1) := by decide +kernel
theorem dX7_scaled_83 : decode cX7_scaled 83 = .ok (.aload_n 0, 1) := by decide +kernel
theorem dX7_scaled_84 : decode cX7_scaled 84 = .ok (.invokevirtual 79, 3) := by decide +kernel
theorem dX7_scaled_87 : decode cX7_scaled 87 = .ok (.lload_n 2, 1) := by decide +kernel
theorem dX7_scaled_88 : decode cX7_scaled 88 = .ok (.lreturn, 1) := by decide +kernel
theorem dX7_most_0 : decode cX7_most 0 = .ok (.aload_n 0, 1) := by decide +kernel
theorem dX7_most_1 : decode cX7_most 1 = .ok (.invokevirtual 101, 3) := by decide +kernel
theorem dX7_most_4 : decode cX7_most 4 = .ok (.ifCond .ne 9, 3) := by decide +kernel
theorem dX7_most_7 : decode cX7_most 7 = .ok (.aload_n 0, 1) := by decide +kernel
theorem dX7_most_8 : decode cX7_most 8 = .ok (.iconst 1, 1) := by decide +kernel
theorem dX7_most_9 : decode cX7_most 9 = .ok (.invokevirtual 65, 3) := by decide +kernel
theorem dX7_most_12 : decode cX7_most 12 = .ok (.ireturn, 1) := by decide +kernel
theorem dX7_most_13 : decode cX7_most 13 = .ok (.iload_n 1, 1) := by decide +kernel
theorem dX7_most_14 : decode cX7_most 14 = .ok (.invokestatic 256, 3) := by decide +kernel
theorem dX7_most_17 : decode cX7_most 17 = .ok (.ifCond .ne 9, 3) := by decide +kernel
theorem dX7_most_20 : decode cX7_most 20 = .ok (.aload_n 0, 1) := by decide +kernel
theorem dX7_most_21 : decode cX7_most 21 = .ok (.iconst 2, 1) := by decide +kernel
theorem dX7_most_22 : decode cX7_most 22 = .ok (.invokevirtual 65, 3) := by decide +kernel
theorem dX7_most_25 : decode cX7_most 25 = .ok (.ireturn, 1) := by decide +kernel
theorem dX7_most_26 : decode cX7_most 26 = .ok (.aload_n 0, 1) := by decide +kernel
theorem dX7_most_27 : decode cX7_most 27 = .ok (.invokevirtual 79, 3) := by decide +kernel
theorem dX7_most_30 : decode cX7_most 30 = .ok (.aload_n 0, 1) := by decide +kernel
theorem dX7_most_31 : decode cX7_most 31 = .ok (.getfield 41, 3) := by decide +kernel
theorem dX7_most_34 : decode cX7_most 34 = .ok (.aload_n 0, 1) := by decide +kernel
theorem dX7_most_35 : decode cX7_most 35 = .ok (.getfield 37, 3) := by decide +kernel
theorem dX7_most_38 : decode cX7_most 38 = .ok (.invokevirtual 83, 3) := by decide +kernel
theorem dX7_most_41 : decode cX7_most 41 = .ok (.sipush 300, 3) := by decide +kernel
theorem dX7_most_44 : decode cX7_most 44 = .ok (.istore_n 2, 1) := by decide +kernel
theorem dX7_most_45 : decode cX7_most 45 = .ok (.iload_n 2, 1) := by decide +kernel
theorem dX7_most_46 : decode cX7_most 46 = .ok (.ifCond .lt 58, 3) := by decide +kernel
theorem dX7_most_49 : decode cX7_most 49 = .ok (.aload_n 0, 1) := by decide +kernel
theorem dX7_most_50 : decode cX7_most 50 = .ok (.getfield 41, 3) := by decide +kernel
theorem dX7_most_53 : decode cX7_most 53 = .ok (.aload_n 0, 1) := by decide +kernel
theorem dX7_most_54 : decode cX7_most 54 = .ok (.getfield 37, 3) := by decide +kernel
theorem dX7_most_57 : decode cX7_most 57 = .ok (.iload_n 2, 1) := by decide +kernel
theorem dX7_most_58 : decode cX7_most 58 = .ok (.invokevirtual 244, 3) := by decide +kernel
theorem dX7_most_61 : decode cX7_most 61 = .ok (.istore_n 3, 1) := by decide +kernel
theorem dX7_most_62 : decode cX7_most 62 = .ok (.iload_n 3, 1) := by decide +kernel
theorem dX7_most_63 : decode cX7_most 63 = .ok (.ifCond .ne 13, 3) := by decide +kernel
theorem dX7_most_66 : decode cX7_most 66 = .ok (.iload_n 2, 1) := by decide +kernel
theorem dX7_most_67 : decode cX7_most 67 = .ok (.sipush 300, 3) := by decide +kernel
theorem dX7_most_70 : decode cX7_most 70 = .ok (.if_icmp .ge 6, 3) := by decide +kernel
theorem dX7_most_73 : decode cX7_most 73 = .ok (.goto 25, 3) := by decide +kernel
theorem dX7_most_76 : decode cX7_most 76 = .ok (.aload_n 0, 1) := by decide +kernel
theorem dX7_most_77 : decode cX7_most 77 = .ok (.getfield 38, 3) := by decide +kernel
theorem dX7_most_80 : decode cX7_most 80 = .ok (.invokevirtual 248, 3) := by decide +kernel
theorem dX7_most_83 : decode cX7_most 83 = .ok (.aload_n 0, 1) := by decide +kernel
theorem dX7_most_84 : decode cX7_most 84 = .ok (.getfield 38, 3) := by decide +kernel
theorem dX7_most_87 : decode cX7_most 87 = .ok (.invokevirtual 251, 3) := by decide +kernel
theorem dX7_most_90 : decode cX7_most 90 = .ok (.iload_n 1, 1) := by decide +kernel
theorem dX7_most_91 : decode cX7_most 91 = .ok (.i2l, 1) := by decide +kernel
theorem dX7_most_92 : decode cX7_most 92 = .ok (.lcmp, 1) := by decide +kernel
theorem dX7_most_93 : decode cX7_most 93 = .ok (.ifCond .lt 5, 3) := by decide +kernel
theorem dX7_most_96 : decode cX7_most 96 = .ok (.iload_n 2, 1) := by decide +kernel
theorem dX7_most_97 : decode cX7_most 97 = .ok (.ireturn, 1) := by decide +kernel
theorem dX7_most_98 : decode cX7_most 98 = .ok (.iinc 2 (-1), 3) := by decide +kernel
theorem dX7_most_101 : decode cX7_most 101 = .ok (.goto (-56), 3) := by decide +kernel
theorem dX7_most_104 : decode cX7_most 104 = .ok (.bipush (-2), 2) := by decide +kernel
theorem dX7_most_106 : decode cX7_most 106 = .ok (.ireturn, 1) := by decide +kernel
theorem dX7_pairs_0 : decode cX7_pairs 0 = .ok (.aload_n 0, 1) := by decide +kernel
theorem dX7_pairs_1 : decode cX7_pairs 1 = .ok (.invokevirtual 101, 3) := by decide +kernel
theorem dX7_pairs_4 : decode cX7_pairs 4 = .ok (.ifCond .ne 9, 3) := by decide +kernel
theorem dX7_pairs_7 : decode cX7_pairs 7 = .ok (.aload_n 0, 1) := by decide +kernel
theorem dX7_pairs_8 : decode cX7_pairs 8 = .ok (.iconst 1, 1) := by decide +kernel
theorem dX7_pairs_9 : decode cX7_pairs 9 = .ok (.invokevirtual 65, 3) := by decide +kernel
theorem dX7_pairs_12 : decode cX7_pairs 12 = .ok (.ireturn, 1) := by decide +kernel
theorem dX7_pairs_13 : decode cX7_pairs 13 = .ok (.aload_n 0, 1) := by decide +kernel
theorem dX7_pairs_14 : decode cX7_pairs 14 = .ok (.invokevirtual 79, 3) := by decide +kernel
theorem dX7_pairs_17 : decode cX7_pairs 17 = .ok (.aload_n 0, 1) := by decide +kernel
theorem dX7_pairs_18 : decode cX7_pairs 18 = .ok (.getfield 37, 3) := by decide +kernel
theorem dX7_pairs_21 : decode cX7_pairs 21 = .ok (.getfield 154, 3) := by decide +kernel
theorem dX7_pairs_24 : decode cX7_pairs 24 = .ok (.aload_n 0, 1) := by decide +kernel
theorem dX7_pairs_25 : decode cX7_pairs 25 = .ok (.invokevirtual 259, 3) := by decide +kernel
theorem dX7_pairs_28 : decode cX7_pairs 28 = .ok (.ior, 1) := by decide +kernel
theorem dX7_pairs_29 : decode cX7_pairs 29 = .ok (.istore_n 1, 1) := by decide +kernel
