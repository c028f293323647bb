theorem dX3_init_0 : decode cX3_init 0 = .ok (.aload_n 0, 1) := by decide +kernel
theorem dX3_init_1 : decode cX3_init 1 = .ok (.invokespecial 3, 3) := by decide +kernel
theorem dX3_init_4 : decode cX3_init 4 = .ok (.aload_n 0, 1) := by decide +kernel
theorem dX3_init_5 : decode cX3_init 5 = .ok (.new 9, 3) := by decide +kernel
theorem dX3_init_8 : decode cX3_init 8 = .ok (.dup, 1) := by decide +kernel
theorem dX3_init_9 : decode cX3_init 9 = .ok (.invokespecial 11, 3) := by decide +kernel
theorem dX3_init_12 : decode cX3_init 12 = .ok (.putfield 12, 3) := by decide +kernel
theorem dX3_init_15 : decode cX3_init 15 = .ok (.aload_n 0, 1) := by decide +kernel
theorem dX3_init_16 : decode cX3_init 16 = .ok (.iconst 0, 1) := by decide +kernel
theorem dX3_init_17 : decode cX3_init 17 = .ok (.newarray .byte, 2) := by decide +kernel
theorem dX3_init_19 : decode cX3_init 19 = .ok (.putfield 18, 3) := by decide +kernel
theorem dX3_init_22 : decode cX3_init 22 = .ok (.return_, 1) := by decide +kernel
theorem dX3_readText_0 : decode cX3_readText 0 = .ok (.aload_n 0, 1) := by decide +kernel
theorem dX3_readText_1 : decode cX3_readText 1 = .ok (.aload_n 1, 1) := by decide +kernel
theorem dX3_readText_2 : decode cX3_readText 2 = .ok (.putfield 18, 3) := by decide +kernel
theorem dX3_readText_5 : decode cX3_readText 5 = .ok (.aload_n 0, 1) := by decide +kernel
theorem dX3_readText_6 : decode cX3_readText 6 = .ok (.iload_n 2, 1) := by decide +kernel
theorem dX3_readText_7 : decode cX3_readText 7 = .ok (.putfield 22, 3) := by decide +kernel
theorem dX3_readText_10 : decode cX3_readText 10 = .ok (.aload_n 0, 1) := by decide +kernel
theorem dX3_readText_11 : decode cX3_readText 11 = .ok (.iconst 0, 1) := by decide +kernel
theorem dX3_readText_12 : decode cX3_readText 12 = .ok (.putfield 26, 3) := by decide +kernel
theorem dX3_readText_15 : decode cX3_readText 15 = .ok (.aload_n 0, 1) := by decide +kernel
theorem dX3_readText_16 : decode cX3_readText 16 = .ok (.iconst 0, 1) := by decide +kernel
theorem dX3_readText_17 : decode cX3_readText 17 = .ok (.putfield 29, 3) := by decide +kernel
theorem dX3_readText_20 : decode cX3_readText 20 = .ok (.aload_n 0, 1) := by decide +kernel
theorem dX3_readText_21 : decode cX3_readText 21 = .ok (.getfield 12, 3) := by decide +kernel
theorem dX3_readText_24 : decode cX3_readText 24 = .ok (.invokevirtual 32, 3) := by decide +kernel
theorem dX3_readText_27 : decode cX3_readText 27 = .ok (.aload_n 0, 1) := by decide +kernel
theorem dX3_readText_28 : decode cX3_readText 28 = .ok (.invokevirtual 35, 3) := by decide +kernel
theorem dX3_readText_31 : decode cX3_readText 31 = .ok (.aload_n 0, 1) := by decide +kernel
theorem dX3_readText_32 : decode cX3_readText 32 = .ok (.invokevirtual 38, 3) := by decide +kernel
theorem dX3_readText_35 : decode cX3_readText 35 = .ok (.istore_n 3, 1) := by decide +kernel
theorem dX3_readText_36 : decode cX3_readText 36 = .ok (.iconst 0, 1) := by decide +kernel
theorem dX3_readText_37 : decode cX3_readText 37 = .ok (.istore 4, 2) := by decide +kernel
theorem dX3_readText_39 : decode cX3_readText 39 = .ok (.iload 4, 2) := by decide +kernel
theorem dX3_readText_41 : decode cX3_readText 41 = .ok (.sipush 600, 3) := by decide +kernel
theorem dX3_readText_44 : decode cX3_readText 44 = .ok (.if_icmp .ge 30, 3) := by decide +kernel
theorem dX3_readText_47 : decode cX3_readText 47 = .ok (.iload_n 3, 1) := by decide +kernel
theorem dX3_readText_48 : decode cX3_readText 48 = .ok (.ifCond .eq 26, 3) := by decide +kernel
theorem dX3_readText_51 : decode cX3_readText 51 = .ok (.aload_n 0, 1) := by decide +kernel
theorem dX3_readText_52 : decode cX3_readText 52 = .ok (.getfield 42, 3) := by decide +kernel
theorem dX3_readText_55 : decode cX3_readText 55 = .ok (.iconst 3, 1) := by decide +kernel
theorem dX3_readText_56 : decode cX3_readText 56 = .ok (.if_icmp .ne 18, 3) := by decide +kernel
theorem dX3_readText_59 : decode cX3_readText 59 = .ok (.aload_n 0, 1) := by decide +kernel
theorem dX3_readText_60 : decode cX3_readText 60 = .ok (.invokevirtual 35, 3) := by decide +kernel
theorem dX3_readText_63 : decode cX3_readText 63 = .ok (.aload_n 0, 1) := by decide +kernel
theorem dX3_readText_64 : decode cX3_readText 64 = .ok (.invokevirtual 45, 3) := by decide +kernel
theorem dX3_readText_67 : decode cX3_readText 67 = .ok (.istore_n 3, 1) := by decide +kernel
theorem dX3_readText_68 : decode cX3_readText 68 = .ok (.iinc 4 1, 3) := by decide +kernel
theorem dX3_readText_71 : decode cX3_readText 71 = .ok (.goto (-32), 3) := by decide +kernel
theorem dX3_readText_74 : decode cX3_readText 74 = .ok (.iload_n 3, 1) := by decide +kernel
theorem dX3_readText_75 : decode cX3_readText 75 = .ok (.ifCond .eq 7, 3) := by decide +kernel
theorem dX3_readText_78 : decode cX3_readText 78 = .ok (.aload_n 0, 1) := by decide +kernel
theorem dX3_readText_79 : decode cX3_readText 79 = .ok (.invokevirtual 48, 3) := by decide +kernel
theorem dX3_readText_82 : decode cX3_readText 82 = .ok (.aload_n 0, 1) := by decide +kernel
theorem dX3_readText_83 : decode cX3_readText 83 = .ok (.getfield 29, 3) := by decide +kernel
theorem dX3_readText_86 : decode cX3_readText 86 = .ok (.ireturn, 1) := by decide +kernel
theorem dX3_readEnd_0 : decode cX3_readEnd 0 = .ok (.aload_n 0, 1) := by decide +kernel
theorem dX3_readEnd_1 : decode cX3_readEnd 1 = .ok (.getfield 42, 3) := by decide +kernel
theorem dX3_readEnd_4 : decode cX3_readEnd 4 = .ok (.ifCond .eq 12, 3) := by decide +kernel
theorem dX3_readEnd_7 : decode cX3_readEnd 7 = .ok (.aload_n 0, 1) := by decide +kernel
theorem dX3_readEnd_8 : decode cX3_readEnd 8 = .ok (.iconst 1, 1) := by decide +kernel
theorem dX3_readEnd_9 : decode cX3_readEnd 9 = .ok (.invokevirtual 51, 3) := by decide +kernel
theorem dX3_readEnd_12 : decode cX3_readEnd 12 = .ok (.pop, 1) := by decide +kernel
theorem dX3_readEnd_13 : decode cX3_readEnd 13 = .ok (.goto 30, 3) := by decide +kernel
theorem dX3_readEnd_16 : decode cX3_readEnd 16 = .ok (.aload_n 0, 1) := by decide +kernel
theorem dX3_readEnd_17 : decode cX3_readEnd 17 = .ok (.getfield 12, 3) := by decide +kernel
theorem dX3_readEnd_20 : decode cX3_readEnd 20 = .ok (.getfield 55, 3) := by decide +kernel
theorem dX3_readEnd_23 : decode cX3_readEnd 23 = .ok (.iconst 2, 1) := by decide +kernel
theorem dX3_readEnd_24 : decode cX3_readEnd 24 = .ok (.if_icmp .lt 13, 3) := by decide +kernel
theorem dX3_readEnd_27 : decode cX3_readEnd 27 = .ok (.aload_n 0, 1) := by decide +kernel
theorem dX3_readEnd_28 : decode cX3_readEnd 28 = .ok (.getfield 12, 3) := by decide +kernel
theorem dX3_readEnd_31 : decode cX3_readEnd 31 = .ok (.invokevirtual 58, 3) := by decide +kernel
theorem dX3_readEnd_34 : decode cX3_readEnd 34 = .ok (.ifCond .ne 9, 3) := by decide +kernel
theorem dX3_readEnd_37 : decode cX3_readEnd 37 = .ok (.aload_n 0, 1) := by decide +kernel
theorem dX3_readEnd_38 : decode cX3_readEnd 38 = .ok (.iconst 5, 1) := by decide +kernel
theorem dX3_readEnd_39 : decode cX3_readEnd 39 = .ok (.invokevirtual 51, 3) := by decide +kernel
theorem dX3_readEnd_42 : decode cX3_readEnd 42 = .ok (.pop, 1) := by decide +kernel
theorem dX3_readEnd_43 : decode cX3_readEnd 43 = .ok (.return_, 1) := by decide +kernel
theorem dX3_readWell_0 : decode cX3_readWell 0 = .ok (.aload_n 0, 1) := by decide +kernel
theorem dX3_readWell_1 : decode cX3_readWell 1 = .ok (.ldc2_w 61, 3) := by decide +kernel
theorem dX3_readWell_4 : decode cX3_readWell 4 = .ok (.invokevirtual 63, 3) := by decide +kernel
theorem dX3_readWell_7 : decode cX3_readWell 7 = .ok (.ifCond .eq 21, 3) := by decide +kernel
theorem dX3_readWell_10 : decode cX3_readWell 10 = .ok (.aload_n 0, 1) := by decide +kernel
theorem dX3_readWell_11 : decode cX3_readWell 11 = .ok (.invokevirtual 67, 3) := by decide +kernel
theorem dX3_readWell_14 : decode cX3_readWell 14 = .ok (.ifCond .eq 14, 3) := by decide +kernel
theorem dX3_readWell_17 : decode cX3_readWell 17 = .ok (.aload_n 0, 1) := by decide +kernel
theorem dX3_readWell_18 : decode cX3_readWell 18 = .ok (.iconst 0, 1) := by decide +kernel
theorem dX3_readWell_19 : decode cX3_readWell 19 = .ok (.sipush 999, 3) := by decide +kernel
theorem dX3_readWell_22 : decode cX3_readWell 22 = .ok (.invokevirtual 70, 3) := by decide +kernel
theorem dX3_readWell_25 : decode cX3_readWell 25 = .ok (.ifCond .ne 5, 3) := by decide +kernel
theorem dX3_readWell_28 : decode cX3_readWell 28 = .ok (.iconst 0, 1) := by decide +kernel
theorem dX3_readWell_29 : decode cX3_readWell 29 = .ok (.ireturn, 1) := by decide +kernel
theorem dX3_readWell_30 : decode cX3_readWell 30 = .ok (.aload_n 0, 1) := by decide +kernel
theorem dX3_readWell_31 : decode cX3_readWell 31 = .ok (.getfield 12, 3) := by decide +kernel
theorem dX3_readWell_34 : decode cX3_readWell 34 = .ok (.aload_n 0, 1) := by decide +kernel
theorem dX3_readWell_35 : decode cX3_readWell 35 = .ok (.getfield 74, 3) := by decide +kernel
theorem dX3_readWell_38 : decode cX3_readWell 38 = .ok (.putfield 77, 3) := by decide +kernel
theorem dX3_readWell_41 : decode cX3_readWell 41 = .ok (.aload_n 0, 1) := by decide +kernel
theorem dX3_readWell_42 : decode cX3_readWell 42 = .ok (.getfield 12, 3) := by decide +kernel
theorem dX3_readWell_45 : decode cX3_readWell 45 = .ok (.aload_n 0, 1) := by decide +kernel
theorem dX3_readWell_46 : decode cX3_readWell 46 = .ok (.getfield 80, 3) := by decide +kernel
theorem dX3_readWell_49 : decode cX3_readWell 49 = .ok (.iconst 0, 1) := by decide +kernel
theorem dX3_readWell_50 : decode cX3_readWell 50 = .ok (.iconst 0, 1) := by decide +kernel
theorem dX3_readWell_51 : decode cX3_readWell 51 = .ok (.invokevirtual 84, 3) := by decide +kernel
theorem dX3_readWell_54 : decode cX3_readWell 54 = .ok (.aload_n 0, 1) := by decide +kernel
theorem dX3_readWell_55 : decode cX3_readWell 55 = .ok (.invokevirtual 35, 3) := by decide +kernel
theorem dX3_readWell_58 : decode cX3_readWell 58 = .ok (.iconst 1, 1) := by decide +kernel
theorem dX3_readWell_59 : decode cX3_readWell 59 = .ok (.ireturn, 1) := by decide +kernel
theorem dX3_readLine_0 : decode cX3_readLine 0 = .ok (.aload_n 0, 1) := by decide +kernel
theorem dX3_readLine_1 : decode cX3_readLine 1 = .ok (.getfield 42, 3) := by decide +kernel
theorem dX3_readLine_4 : decode cX3_readLine 4 = .ok (.iconst 1, 1) := by decide +kernel
theorem dX3_readLine_5 : decode cX3_readLine 5 = .ok (.if_icmp .eq 9, 3) := by decide +kernel
theorem dX3_readLine_8 : decode cX3_readLine 8 = .ok (.aload_n 0, 1) := by decide +kernel
theorem dX3_readLine_9 : decode cX3_readLine 9 = .ok (.iconst 1, 1) := by decide +kernel
theorem dX3_readLine_10 : decode cX3_readLine 10 = .ok (.invokevirtual 51, 3) := by decide +kernel
theorem dX3_readLine_13 : decode cX3_readLine 13 = .ok (.ireturn, 1) := by decide +kernel
theorem dX3_readLine_14 : decode cX3_readLine 14 = .ok (.aload_n 0, 1) := by decide +kernel
theorem dX3_readLine_15 : decode cX3_readLine 15 = .ok (.getfield 88, 3) := by decide +kernel
theorem dX3_readLine_18 : decode cX3_readLine 18 = .ok (.ldc2_w 91, 3) := by decide +kernel
theorem dX3_readLine_21 : decode cX3_readLine 21 = .ok (.lcmp, 1) := by decide +kernel
theorem dX3_readLine_22 : decode cX3_readLine 22 = .ok (.ifCond .ne 8, 3) := by decide +kernel
theorem dX3_readLine_25 : decode cX3_readLine 25 = .ok (.aload_n 0, 1) := by decide +kernel
theorem dX3_readLine_26 : decode cX3_readLine 26 = .ok (.invokevirtual 93, 3) := by decide +kernel
theorem dX3_readLine_29 : decode cX3_readLine 29 = .ok (.ireturn, 1) := by decide +kernel
theorem dX3_readLine_30 : decode cX3_readLine 30 = .ok (.aload_n 0, 1) := by decide +kernel
theorem dX3_readLine_31 : decode cX3_readLine 31 = .ok (.getfield 88, 3) := by decide +kernel
theorem dX3_readLine_34 : decode cX3_readLine 34 = .ok (.ldc2_w 96, 3) := by decide +kernel
theorem dX3_readLine_37 : decode cX3_readLine 37 = .ok (.lcmp, 1) := by decide +kernel
theorem dX3_readLine_38 : decode cX3_readLine 38 = .ok (.ifCond .ne 9, 3) := by decide +kernel
theorem dX3_readLine_41 : decode cX3_readLine 41 = .ok (.aload_n 0, 1) := by decide +kernel
theorem dX3_readLine_42 : decode cX3_readLine 42 = .ok (.iconst 0, 1) := by decide +kernel
theorem dX3_readLine_43 : decode cX3_readLine 43 = .ok (.invokevirtual 98, 3) := by decide +kernel
theorem dX3_readLine_46 : decode cX3_readLine 46 = .ok (.ireturn, 1) := by decide +kernel
theorem dX3_readLine_47 : decode cX3_readLine 47 = .ok (.aload_n 0, 1) := by decide +kernel
theorem dX3_readLine_48 : decode cX3_readLine 48 = .ok (.getfield 88, 3) := by decide +kernel
theorem dX3_readLine_51 : decode cX3_readLine 51 = .ok (.ldc2_w 101, 3) := by decide +kernel
theorem dX3_readLine_54 : decode cX3_readLine 54 = .ok (.lcmp, 1) := by decide +kernel
theorem dX3_readLine_55 : decode cX3_readLine 55 = .ok (.ifCond .ne 9, 3) := by decide +kernel
theorem dX3_readLine_58 : decode cX3_readLine 58 = .ok (.aload_n 0, 1) := by decide +kernel
theorem dX3_readLine_59 : decode cX3_readLine 59 = .ok (.iconst 1, 1) := by decide +kernel
theorem dX3_readLine_60 : decode cX3_readLine 60 = .ok (.invokevirtual 98, 3) := by decide +kernel
theorem dX3_readLine_63 : decode cX3_readLine 63 = .ok (.ireturn, 1) := by decide +kernel
theorem dX3_readLine_64 : decode cX3_readLine 64 = .ok (.aload_n 0, 1) := by decide +kernel
theorem dX3_readLine_65 : decode cX3_readLine 65 = .ok (.getfield 88, 3) := by decide +kernel
theorem dX3_readLine_68 : decode cX3_readLine 68 = .ok (.ldc2_w 103, 3) := by decide +kernel
theorem dX3_readLine_71 : decode cX3_readLine 71 = .ok (.lcmp, 1) := by decide +kernel
theorem dX3_readLine_72 : decode cX3_readLine 72 = .ok (.ifCond .ne 10, 3) := by decide +kernel
theorem dX3_readLine_75 : decode cX3_readLine 75 = .ok (.aload_n 0, 1) := by decide +kernel
theorem dX3_readLine_76 : decode cX3_readLine 76 = .ok (.invokevirtual 105, 3) := by decide +kernel
theorem dX3_readLine_79 : decode cX3_readLine 79 = .ok (.goto 8, 3) := by decide +kernel
theorem dX3_readLine_82 : decode cX3_readLine 82 = .ok (.aload_n 0, 1) := by decide +kernel
theorem dX3_readLine_83 : decode cX3_readLine 83 = .ok (.iconst 1, 1) := by decide +kernel
theorem dX3_readLine_84 : decode cX3_readLine 84 = .ok (.invokevirtual 51, 3) := by decide +kernel
theorem dX3_readLine_87 : decode cX3_readLine 87 = .ok (.ireturn, 1) := by decide +kernel
theorem dX3_readJoint_0 : decode cX3_readJoint 0 = .ok (.aload_n 0, 1) := by decide +kernel
theorem dX3_readJoint_1 : decode cX3_readJoint 1 = .ok (.getfield 12, 3) := by decide +kernel
theorem dX3_readJoint_4 : decode cX3_readJoint 4 = .ok (.getfield 55, 3) := by decide +kernel
theorem dX3_readJoint_7 : decode cX3_readJoint 7 = .ok (.bipush 9, 2) := by decide +kernel
theorem dX3_readJoint_9 : decode cX3_readJoint 9 = .ok (.if_icmp .lt 9, 3) := by decide +kernel
theorem dX3_readJoint_12 : decode cX3_readJoint 12 = .ok (.aload_n 0, 1) := by decide +kernel
theorem dX3_readJoint_13 : decode cX3_readJoint 13 = .ok (.iconst 4, 1) := by decide +kernel
theorem dX3_readJoint_14 : decode cX3_readJoint 14 = .ok (.invokevirtual 51, 3) := by decide +kernel
theorem dX3_readJoint_17 : decode cX3_readJoint 17 = .ok (.ireturn, 1) := by decide +kernel
theorem dX3_readJoint_18 : decode cX3_readJoint 18 = .ok (.aload_n 0, 1) := by decide +kernel
theorem dX3_readJoint_19 : decode cX3_readJoint 19 = .ok (.invokevirtual 35, 3) := by decide +kernel
theorem dX3_readJoint_22 : decode cX3_readJoint 22 = .ok (.aload_n 0, 1) := by decide +kernel
theorem dX3_readJoint_23 : decode cX3_readJoint 23 = .ok (.invokevirtual 67, 3) := by decide +kernel
theorem dX3_readJoint_26 : decode cX3_readJoint 26 = .ok (.ifCond .eq 13, 3) := by decide +kernel
theorem dX3_readJoint_29 : decode cX3_readJoint 29 = .ok (.aload_n 0, 1) := by decide +kernel
theorem dX3_readJoint_30 : decode cX3_readJoint 30 = .ok (.iconst 0, 1) := by decide +kernel
theorem dX3_readJoint_31 : decode cX3_readJoint 31 = .ok (.bipush 60, 2) := by decide +kernel
theorem dX3_readJoint_33 : decode cX3_readJoint 33 = .ok (.invokevirtual 70, 3) := by decide +kernel
theorem dX3_readJoint_36 : decode cX3_readJoint 36 = .ok (.ifCond .ne 5, 3) := by decide +kernel
theorem dX3_readJoint_39 : decode cX3_readJoint 39 = .ok (.iconst 0, 1) := by decide +kernel
theorem dX3_readJoint_40 : decode cX3_readJoint 40 = .ok (.ireturn, 1) := by decide +kernel
theorem dX3_readJoint_41 : decode cX3_readJoint 41 = .ok (.aload_n 0, 1) := by decide +kernel
theorem dX3_readJoint_42 : decode cX3_readJoint 42 = .ok (.getfield 74, 3) := by decide +kernel
theorem dX3_readJoint_45 : decode cX3_readJoint 45 = .ok (.istore_n 1, 1) := by decide +kernel
theorem dX3_readJoint_46 : decode cX3_readJoint 46 = .ok (.aload_n 0, 1) := by decide +kernel
theorem dX3_readJoint_47 : decode cX3_readJoint 47 = .ok (.invokevirtual 35, 3) := by decide +kernel
theorem dX3_readJoint_50 : decode cX3_readJoint 50 = .ok (.aload_n 0, 1) := by decide +kernel
theorem dX3_readJoint_51 : decode cX3_readJoint 51 = .ok (.ldc2_w 108, 3) := by decide +kernel
theorem dX3_readJoint_54 : decode cX3_readJoint 54 = .ok (.invokevirtual 63, 3) := by decide +kernel
theorem dX3_readJoint_57 : decode cX3_readJoint 57 = .ok (.ifCond .eq 14, 3) := by decide +kernel
theorem dX3_readJoint_60 : decode cX3_readJoint 60 = .ok (.aload_n 0, 1) := by decide +kernel
theorem dX3_readJoint_61 : decode cX3_readJoint 61 = .ok (.iconst 0, 1) := by decide +kernel
theorem dX3_readJoint_62 : decode cX3_readJoint 62 = .ok (.sipush 300, 3) := by decide +kernel
theorem dX3_readJoint_65 : decode cX3_readJoint 65 = .ok (.invokevirtual 70, 3) := by decide +kernel
theorem dX3_readJoint_68 : decode cX3_readJoint 68 = .ok (.ifCond .ne 5, 3) := by decide +kernel
theorem dX3_readJoint_71 : decode cX3_readJoint 71 = .ok (.iconst 0, 1) := by decide +kernel
theorem dX3_readJoint_72 : decode cX3_readJoint 72 = .ok (.ireturn, 1) := by decide +kernel
theorem dX3_readJoint_73 : decode cX3_readJoint 73 = .ok (.aload_n 0, 1) := by decide +kernel
theorem dX3_readJoint_74 : decode cX3_readJoint 74 = .ok (.getfield 12, 3) := by decide +kernel
theorem dX3_readJoint_77 : decode cX3_readJoint 77 = .ok (.aload_n 0, 1) := by decide +kernel
theorem dX3_readJoint_78 : decode cX3_readJoint 78 = .ok (.getfield 80, 3) := by decide +kernel
theorem dX3_readJoint_81 : decode cX3_readJoint 81 = .ok (.iload_n 1, 1) := by decide +kernel
theorem dX3_readJoint_82 : decode cX3_readJoint 82 = .ok (.aload_n 0, 1) := by decide +kernel
theorem dX3_readJoint_83 : decode cX3_readJoint 83 = .ok (.getfield 74, 3) := by decide +kernel
theorem dX3_readJoint_86 : decode cX3_readJoint 86 = .ok (.invokevirtual 84, 3) := by decide +kernel
theorem dX3_readJoint_89 : decode cX3_readJoint 89 = .ok (.aload_n 0, 1) := by decide +kernel
theorem dX3_readJoint_90 : decode cX3_readJoint 90 = .ok (.invokevirtual 35, 3) := by decide +kernel
theorem dX3_readJoint_93 : decode cX3_readJoint 93 = .ok (.iconst 1, 1) := by decide +kernel
theorem dX3_readJoint_94 : decode cX3_readJoint 94 = .ok (.ireturn, 1) := by decide +kernel
theorem dX3_readResisting_0 : decode cX3_readResisting 0 = .ok (.aload_n 0, 1) := by decide +kernel
theorem dX3_readResisting_1 : decode cX3_readResisting 1 = .ok (.invokevirtual 110, 3) := by decide +kernel
theorem dX3_readResisting_4 : decode cX3_readResisting 4 = .ok (.ifCond .eq 13, 3) := by decide +kernel
theorem dX3_readResisting_7 : decode cX3_readResisting 7 = .ok (.aload_n 0, 1) := by decide +kernel
theorem dX3_readResisting_8 : decode cX3_readResisting 8 = .ok (.iconst 1, 1) := by decide +kernel
theorem dX3_readResisting_9 : decode cX3_readResisting 9 = .ok (.bipush 20, 2) := by decide +kernel
theorem dX3_readResisting_11 : decode cX3_readResisting 11 = .ok (.invokevirtual 70, 3) := by decide +kernel
theorem dX3_readResisting_14 : decode cX3_readResisting 14 = .ok (.ifCond .ne 5, 3) := by decide +kernel
theorem dX3_readResisting_17 : decode cX3_readResisting 17 = .ok (.iconst 0, 1) := by decide +kernel
theorem dX3_readResisting_18 : decode cX3_readResisting 18 = .ok (.ireturn, 1) := by decide +kernel
theorem dX3_readResisting_19 : decode cX3_readResisting 19 = .ok (.aload_n 0, 1) := by decide +kernel
theorem dX3_readResisting_20 : decode cX3_readResisting 20 = .ok (.getfield 12, 3) := by decide +kernel
theorem dX3_readResisting_23 : decode cX3_readResisting 23 = .ok (.iload_n 1, 1) := by decide +kernel
theorem dX3_readResisting_24 : decode cX3_readResisting 24 = .ok (.aload_n 0, 1) := by decide +kernel
theorem dX3_readResisting_25 : decode cX3_readResisting 25 = .ok (.getfield 113, 3) := by decide +kernel
theorem dX3_readResisting_28 : decode cX3_readResisting 28 = .ok (.aload_n 0, 1) := by decide +kernel
theorem dX3_readResisting_29 : decode cX3_readResisting 29 = .ok (.getfield 116, 3) := by decide +kernel
theorem dX3_readResisting_32 : decode cX3_readResisting 32 = .ok (.aload_n 0, 1) := by decide +kernel
theorem dX3_readResisting_33 : decode cX3_readResisting 33 = .ok (.getfield 74, 3) := by decide +kernel
theorem dX3_readResisting_36 : decode cX3_readResisting 36 = .ok (.invokevirtual 119, 3) := by decide +kernel
theorem dX3_readResisting_39 : decode cX3_readResisting 39 = .ok (.aload_n 0, 1) := by decide +kernel
theorem dX3_readResisting_40 : decode cX3_readResisting 40 = .ok (.invokevirtual 35, 3) := by decide +kernel
theorem dX3_readResisting_43 : decode cX3_readResisting 43 = .ok (.iconst 1, 1) := by decide +kernel
theorem dX3_readResisting_44 : decode cX3_readResisting 44 = .ok (.ireturn, 1) := by decide +kernel
theorem dX3_readPump_0 : decode cX3_readPump 0 = .ok (.aload_n 0, 1) := by decide +kernel
theorem dX3_readPump_1 : decode cX3_readPump 1 = .ok (.invokevirtual 110, 3) := by decide +kernel
theorem dX3_readPump_4 : decode cX3_readPump 4 = .ok (.ifCond .ne 5, 3) := by decide +kernel
theorem dX3_readPump_7 : decode cX3_readPump 7 = .ok (.iconst 0, 1) := by decide +kernel
theorem dX3_readPump_8 : decode cX3_readPump 8 = .ok (.ireturn, 1) := by decide +kernel
theorem dX3_readPump_9 : decode cX3_readPump 9 = .ok (.aload_n 0, 1) := by decide +kernel
theorem dX3_readPump_10 : decode cX3_readPump 10 = .ok (.getfield 12, 3) := by decide +kernel
theorem dX3_readPump_13 : decode cX3_readPump 13 = .ok (.iconst 2, 1) := by decide +kernel
theorem dX3_readPump_14 : decode cX3_readPump 14 = .ok (.aload_n 0, 1) := by decide +kernel
theorem dX3_readPump_15 : decode cX3_readPump 15 = .ok (.getfield 113, 3) := by decide +kernel
theorem dX3_readPump_18 : decode cX3_readPump 18 = .ok (.aload_n 0, 1) := by decide +kernel
theorem dX3_readPump_19 : decode cX3_readPump 19 = .ok (.getfield 116, 3) := by decide +kernel
theorem dX3_readPump_22 : decode cX3_readPump 22 = .ok (.iconst 0, 1) := by decide +kernel
theorem dX3_readPump_23 : decode cX3_readPump 23 = .ok (.invokevirtual 119, 3) := by decide +kernel
theorem dX3_readPump_26 : decode cX3_readPump 26 = .ok (.sipush 300, 3) := by decide +kernel
theorem dX3_readPump_29 : decode cX3_readPump 29 = .ok (.istore_n 1, 1) := by decide +kernel
theorem dX3_readPump_30 : decode cX3_readPump 30 = .ok (.iconst 0, 1) := by decide +kernel
theorem dX3_readPump_31 : decode cX3_readPump 31 = .ok (.istore_n 2, 1) := by decide +kernel
theorem dX3_readPump_32 : decode cX3_readPump 32 = .ok (.iload_n 2, 1) := by decide +kernel
theorem dX3_readPump_33 : decode cX3_readPump 33 = .ok (.bipush 6, 2) := by decide +kernel
theorem dX3_readPump_35 : decode cX3_readPump 35 = .ok (.if_icmp .ge 54, 3) := by decide +kernel
theorem dX3_readPump_38 : decode cX3_readPump 38 = .ok (.aload_n 0, 1) := by decide +kernel
theorem dX3_readPump_39 : decode cX3_readPump 39 = .ok (.iconst 0, 1) := by decide +kernel
theorem dX3_readPump_40 : decode cX3_readPump 40 = .ok (.iload_n 1, 1) := by decide +kernel
theorem dX3_readPump_41 : decode cX3_readPump 41 = .ok (.invokevirtual 70, 3) := by decide +kernel
theorem dX3_readPump_44 : decode cX3_readPump 44 = .ok (.ifCond .ne 5, 3) := by decide +kernel
theorem dX3_readPump_47 : decode cX3_readPump 47 = .ok (.iconst 0, 1) := by decide +kernel
theorem dX3_readPump_48 : decode cX3_readPump 48 = .ok (.ireturn, 1) := by decide +kernel
theorem dX3_readPump_49 : decode cX3_readPump 49 = .ok (.aload_n 0, 1) := by decide +kernel
theorem dX3_readPump_50 : decode cX3_readPump 50 = .ok (.getfield 74, 3) := by decide +kernel
theorem dX3_readPump_53 : decode cX3_readPump 53 = .ok (.istore_n 1, 1) := by decide +kernel
theorem dX3_readPump_54 : decode cX3_readPump 54 = .ok (.aload_n 0, 1) := by decide +kernel
theorem dX3_readPump_55 : decode cX3_readPump 55 = .ok (.getfield 12, 3) := by decide +kernel
theorem dX3_readPump_58 : decode cX3_readPump 58 = .ok (.aload_n 0, 1) := by decide +kernel
theorem dX3_readPump_59 : decode cX3_readPump 59 = .ok (.getfield 74, 3) := by decide +kernel
theorem dX3_readPump_62 : decode cX3_readPump 62 = .ok (.invokevirtual 123, 3) := by decide +kernel
theorem dX3_readPump_65 : decode cX3_readPump 65 = .ok (.aload_n 0, 1) := by decide +kernel
theorem dX3_readPump_66 : decode cX3_readPump 66 = .ok (.invokevirtual 35, 3) := by decide +kernel
theorem dX3_readPump_69 : decode cX3_readPump 69 = .ok (.aload_n 0, 1) := by decide +kernel
theorem dX3_readPump_70 : decode cX3_readPump 70 = .ok (.getfield 42, 3) := by decide +kernel
theorem dX3_readPump_73 : decode cX3_readPump 73 = .ok (.iconst 4, 1) := by decide +kernel
theorem dX3_readPump_74 : decode cX3_readPump 74 = .ok (.if_icmp .eq 5, 3) := by decide +kernel
theorem dX3_readPump_77 : decode cX3_readPump 77 = .ok (.iconst 1, 1) := by decide +kernel
theorem dX3_readPump_78 : decode cX3_readPump 78 = .ok (.ireturn, 1) := by decide +kernel
theorem dX3_readPump_79 : decode cX3_readPump 79 = .ok (.aload_n 0, 1) := by decide +kernel
theorem dX3_readPump_80 : decode cX3_readPump 80 = .ok (.invokevirtual 35, 3) := by decide +kernel
theorem dX3_readPump_83 : decode cX3_readPump 83 = .ok (.iinc 2 1, 3) := by decide +kernel
theorem dX3_readPump_86 : decode cX3_readPump 86 = .ok (.goto (-54), 3) := by decide +kernel
theorem dX3_readPump_89 : decode cX3_readPump 89 = .ok (.aload_n 0, 1) := by decide +kernel
theorem dX3_readPump_90 : decode cX3_readPump 90 = .ok (.iconst 0, 1) := by decide +kernel
theorem dX3_readPump_91 : decode cX3_readPump 91 = .ok (.iload_n 1, 1) := by decide +kernel
theorem dX3_readPump_92 : decode cX3_readPump 92 = .ok (.invokevirtual 70, 3) := by decide +kernel
theorem dX3_readPump_95 : decode cX3_readPump 95 = .ok (.ifCond .eq 15, 3) := by decide +kernel
theorem dX3_readPump_98 : decode cX3_readPump 98 = .ok (.aload_n 0, 1) := by decide +kernel
theorem dX3_readPump_99 : decode cX3_readPump 99 = .ok (.iconst 4, 1) := by decide +kernel
theorem dX3_readPump_100 : decode cX3_readPump 100 = .ok (.invokevirtual 51, 3) := by decide +kernel
theorem dX3_readPump_103 : decode cX3_readPump 103 = .ok (.ifCond .eq 7, 3) := by decide +kernel
theorem dX3_readPump_106 : decode cX3_readPump 106 = .ok (.iconst 1, 1) := by decide +kernel
theorem dX3_readPump_107 : decode cX3_readPump 107 = .ok (.goto 4, 3) := by decide +kernel
theorem dX3_readPump_110 : decode cX3_readPump 110 = .ok (.iconst 0, 1) := by decide +kernel
theorem dX3_readPump_111 : decode cX3_readPump 111 = .ok (.ireturn, 1) := by decide +kernel
theorem dX3_readEnds_0 : decode cX3_readEnds 0 = .ok (.aload_n 0, 1) := by decide +kernel
theorem dX3_readEnds_1 : decode cX3_readEnds 1 = .ok (.getfield 12, 3) := by decide +kernel
theorem dX3_readEnds_4 : decode cX3_readEnds 4 = .ok (.getfield 127, 3) := by decide +kernel
theorem dX3_readEnds_7 : decode cX3_readEnds 7 = .ok (.bipush 14, 2) := by decide +kernel
theorem dX3_readEnds_9 : decode cX3_readEnds 9 = .ok (.if_icmp .lt 9, 3) := by decide +kernel
theorem dX3_readEnds_12 : decode cX3_readEnds 12 = .ok (.aload_n 0, 1) := by decide +kernel
theorem dX3_readEnds_13 : decode cX3_readEnds 13 = .ok (.iconst 4, 1) := by decide +kernel
theorem dX3_readEnds_14 : decode cX3_readEnds 14 = .ok (.invokevirtual 51, 3) := by decide +kernel
theorem dX3_readEnds_17 : decode cX3_readEnds 17 = .ok (.ireturn, 1) := by decide +kernel
theorem dX3_readEnds_18 : decode cX3_readEnds 18 = .ok (.aload_n 0, 1) := by decide +kernel
theorem dX3_readEnds_19 : decode cX3_readEnds 19 = .ok (.invokevirtual 35, 3) := by decide +kernel
theorem dX3_readEnds_22 : decode cX3_readEnds 22 = .ok (.aload_n 0, 1) := by decide +kernel
theorem dX3_readEnds_23 : decode cX3_readEnds 23 = .ok (.aload_n 0, 1) := by decide +kernel
theorem dX3_readEnds_24 : decode cX3_readEnds 24 = .ok (.invokevirtual 130, 3) := by decide +kernel
theorem dX3_readEnds_27 : decode cX3_readEnds 27 = .ok (.putfield 113, 3) := by decide +kernel
theorem dX3_readEnds_30 : decode cX3_readEnds 30 = .ok (.aload_n 0, 1) := by decide +kernel
theorem dX3_readEnds_31 : decode cX3_readEnds 31 = .ok (.getfield 113, 3) := by decide +kernel
theorem dX3_readEnds_34 : decode cX3_readEnds 34 = .ok (.iconst (-1), 1) := by decide +kernel
theorem dX3_readEnds_35 : decode cX3_readEnds 35 = .ok (.if_icmp .ne 5, 3) := by decide +kernel
theorem dX3_readEnds_38 : decode cX3_readEnds 38 = .ok (.iconst 0, 1) := by decide +kernel
theorem dX3_readEnds_39 : decode cX3_readEnds 39 = .ok (.ireturn, 1) := by decide +kernel
theorem dX3_readEnds_40 : decode cX3_readEnds 40 = .ok (.aload_n 0, 1) := by decide +kernel
theorem dX3_readEnds_41 : decode cX3_readEnds 41 = .ok (.invokevirtual 35, 3) := by decide +kernel
theorem dX3_readEnds_44 : decode cX3_readEnds 44 = .ok (.aload_n 0, 1) := by decide +kernel
theorem dX3_readEnds_45 : decode cX3_readEnds 45 = .ok (.aload_n 0, 1) := by decide +kernel
theorem dX3_readEnds_46 : decode cX3_readEnds 46 = .ok (.invokevirtual 130, 3) := by decide +kernel
theorem dX3_readEnds_49 : decode cX3_readEnds 49 = .ok (.putfield 116, 3) := by decide +kernel
theorem dX3_readEnds_52 : decode cX3_readEnds 52 = .ok (.aload_n 0, 1) := by decide +kernel
theorem dX3_readEnds_53 : decode cX3_readEnds 53 = .ok (.getfield 116, 3) := by decide +kernel
theorem dX3_readEnds_56 : decode cX3_readEnds 56 = .ok (.iconst (-1), 1) := by decide +kernel
theorem dX3_readEnds_57 : decode cX3_readEnds 57 = .ok (.if_icmp .ne 5, 3) := by decide +kernel
theorem dX3_readEnds_60 : decode cX3_readEnds 60 = .ok (.iconst 0, 1) := by decide +kernel
theorem dX3_readEnds_61 : decode cX3_readEnds 61 = .ok (.ireturn, 1) := by decide +kernel
theorem dX3_readEnds_62 : decode cX3_readEnds 62 = .ok (.aload_n 0, 1) := by decide +kernel
theorem dX3_readEnds_63 : decode cX3_readEnds 63 = .ok (.getfield 116, 3) := by decide +kernel
theorem dX3_readEnds_66 : decode cX3_readEnds 66 = .ok (.aload_n 0, 1) := by decide +kernel
theorem dX3_readEnds_67 : decode cX3_readEnds 67 = .ok (.getfield 113, 3) := by decide +kernel
theorem dX3_readEnds_70 : decode cX3_readEnds 70 = .ok (.if_icmp .ne 9, 3) := by decide +kernel
theorem dX3_readEnds_73 : decode cX3_readEnds 73 = .ok (.aload_n 0, 1) := by decide +kernel
theorem dX3_readEnds_74 : decode cX3_readEnds 74 = .ok (.iconst 3, 1) := by decide +kernel
theorem dX3_readEnds_75 : decode cX3_readEnds 75 = .ok (.invokevirtual 51, 3) := by decide +kernel
theorem dX3_readEnds_78 : decode cX3_readEnds 78 = .ok (.ireturn, 1) := by decide +kernel
theorem dX3_readEnds_79 : decode cX3_readEnds 79 = .ok (.aload_n 0, 1) := by decide +kernel
theorem dX3_readEnds_80 : decode cX3_readEnds 80 = .ok (.invokevirtual 35, 3) := by decide +kernel
theorem dX3_readEnds_83 : decode cX3_readEnds 83 = .ok (.iconst 1, 1) := by decide +kernel
theorem dX3_readEnds_84 : decode cX3_readEnds 84 = .ok (.ireturn, 1) := by decide +kernel
theorem dX3_blame_0 : decode cX3_blame 0 = .ok (.aload_n 0, 1) := by decide +kernel
theorem dX3_blame_1 : decode cX3_blame 1 = .ok (.iload_n 1, 1) := by decide +kernel
theorem dX3_blame_2 : decode cX3_blame 2 = .ok (.putfield 29, 3) := by decide +kernel
theorem dX3_blame_5 : decode cX3_blame 5 = .ok (.iconst 0, 1) := by decide +kernel
theorem dX3_blame_6 : decode cX3_blame 6 = .ok (.ireturn, 1) := by decide +kernel
theorem dX3_takeWord_0 : decode cX3_takeWord 0 = .ok (.aload_n 0, 1) := by decide +kernel
theorem dX3_takeWord_1 : decode cX3_takeWord 1 = .ok (.getfield 42, 3) := by decide +kernel
theorem dX3_takeWord_4 : decode cX3_takeWord 4 = .ok (.iconst 1, 1) := by decide +kernel
theorem dX3_takeWord_5 : decode cX3_takeWord 5 = .ok (.if_icmp .ne 12, 3) := by decide +kernel
theorem dX3_takeWord_8 : decode cX3_takeWord 8 = .ok (.aload_n 0, 1) := by decide +kernel
theorem dX3_takeWord_9 : decode cX3_takeWord 9 = .ok (.getfield 88, 3) := by decide +kernel
theorem dX3_takeWord_12 : decode cX3_takeWord 12 = .ok (.lload_n 1, 1) := by decide +kernel
theorem dX3_takeWord_13 : decode cX3_takeWord 13 = .ok (.lcmp, 1) := by decide +kernel
theorem dX3_takeWord_14 : decode cX3_takeWord 14 = .ok (.ifCond .eq 9, 3) := by decide +kernel
theorem dX3_takeWord_17 : decode cX3_takeWord 17 = .ok (.aload_n 0, 1) := by decide +kernel
theorem dX3_takeWord_18 : decode cX3_takeWord 18 = .ok (.iconst 1, 1) := by decide +kernel
theorem dX3_takeWord_19 : decode cX3_takeWord 19 = .ok (.invokevirtual 51, 3) := by decide +kernel
theorem dX3_takeWord_22 : decode cX3_takeWord 22 = .ok (.ireturn, 1) := by decide +kernel
theorem dX3_takeWord_23 : decode cX3_takeWord 23 = .ok (.aload_n 0, 1) := by decide +kernel
theorem dX3_takeWord_24 : decode cX3_takeWord 24 = .ok (.invokevirtual 35, 3) := by decide +kernel
theorem dX3_takeWord_27 : decode cX3_takeWord 27 = .ok (.iconst 1, 1) := by decide +kernel
theorem dX3_takeWord_28 : decode cX3_takeWord 28 = .ok (.ireturn, 1) := by decide +kernel
theorem dX3_takeNewName_0 : decode cX3_takeNewName 0 = .ok (.aload_n 0, 1) := by decide +kernel
theorem dX3_takeNewName_1 : decode cX3_takeNewName 1 = .ok (.invokevirtual 134, 3) := by decide +kernel
theorem dX3_takeNewName_4 : decode cX3_takeNewName 4 = .ok (.ifCond .ne 9, 3) := by decide +kernel
theorem dX3_takeNewName_7 : decode cX3_takeNewName 7 = .ok (.aload_n 0, 1) := by decide +kernel
theorem dX3_takeNewName_8 : decode cX3_takeNewName 8 = .ok (.iconst 1, 1) := by decide +kernel
theorem dX3_takeNewName_9 : decode cX3_takeNewName 9 = .ok (.invokevirtual 51, 3) := by decide +kernel
theorem dX3_takeNewName_12 : decode cX3_takeNewName 12 = .ok (.ireturn, 1) := by decide +kernel
theorem dX3_takeNewName_13 : decode cX3_takeNewName 13 = .ok (.aload_n 0, 1) := by decide +kernel
theorem dX3_takeNewName_14 : decode cX3_takeNewName 14 = .ok (.getfield 12, 3) := by decide +kernel
theorem dX3_takeNewName_17 : decode cX3_takeNewName 17 = .ok (.aload_n 0, 1) := by decide +kernel
theorem dX3_takeNewName_18 : decode cX3_takeNewName 18 = .ok (.getfield 88, 3) := by decide +kernel
theorem dX3_takeNewName_21 : decode cX3_takeNewName 21 = .ok (.invokevirtual 137, 3) := by decide +kernel
theorem dX3_takeNewName_24 : decode cX3_takeNewName 24 = .ok (.iconst (-1), 1) := by decide +kernel
theorem dX3_takeNewName_25 : decode cX3_takeNewName 25 = .ok (.if_icmp .eq 9, 3) := by decide +kernel
theorem dX3_takeNewName_28 : decode cX3_takeNewName 28 = .ok (.aload_n 0, 1) := by decide +kernel
theorem dX3_takeNewName_29 : decode cX3_takeNewName 29 = .ok (.iconst 3, 1) := by decide +kernel
theorem dX3_takeNewName_30 : decode cX3_takeNewName 30 = .ok (.invokevirtual 51, 3) := by decide +kernel
theorem dX3_takeNewName_33 : decode cX3_takeNewName 33 = .ok (.ireturn, 1) := by decide +kernel
theorem dX3_takeNewName_34 : decode cX3_takeNewName 34 = .ok (.aload_n 0, 1) := by decide +kernel
theorem dX3_takeNewName_35 : decode cX3_takeNewName 35 = .ok (.aload_n 0, 1) := by decide +kernel
theorem dX3_takeNewName_36 : decode cX3_takeNewName 36 = .ok (.getfield 88, 3) := by decide +kernel
theorem dX3_takeNewName_39 : decode cX3_takeNewName 39 = .ok (.putfield 80, 3) := by decide +kernel
theorem dX3_takeNewName_42 : decode cX3_takeNewName 42 = .ok (.aload_n 0, 1) := by decide +kernel
theorem dX3_takeNewName_43 : decode cX3_takeNewName 43 = .ok (.invokevirtual 35, 3) := by decide +kernel
theorem dX3_takeNewName_46 : decode cX3_takeNewName 46 = .ok (.iconst 1, 1) := by decide +kernel
theorem dX3_takeNewName_47 : decode cX3_takeNewName 47 = .ok (.ireturn, 1) := by decide +kernel
theorem dX3_isWholeWithin_0 : decode cX3_isWholeWithin 0 = .ok (.aload_n 0, 1) := by decide +kernel
theorem dX3_isWholeWithin_1 : decode cX3_isWholeWithin 1 = .ok (.getfield 42, 3) := by decide +kernel
theorem dX3_isWholeWithin_4 : decode cX3_isWholeWithin 4 = .ok (.iconst 2, 1) := by decide +kernel
theorem dX3_isWholeWithin_5 : decode cX3_isWholeWithin 5 = .ok (.if_icmp .eq 9, 3) := by decide +kernel
theorem dX3_isWholeWithin_8 : decode cX3_isWholeWithin 8 = .ok (.aload_n 0, 1) := by decide +kernel
theorem dX3_isWholeWithin_9 : decode cX3_isWholeWithin 9 = .ok (.iconst 1, 1) := by decide +kernel
theorem dX3_isWholeWithin_10 : decode cX3_isWholeWithin 10 = .ok (.invokevirtual 51, 3) := by decide +kernel
theorem dX3_isWholeWithin_13 : decode cX3_isWholeWithin 13 = .ok (.ireturn, 1) := by decide +kernel
theorem dX3_isWholeWithin_14 : decode cX3_isWholeWithin 14 = .ok (.aload_n 0, 1) := by decide +kernel
theorem dX3_isWholeWithin_15 : decode cX3_isWholeWithin 15 = .ok (.getfield 74, 3) := by decide +kernel
theorem dX3_isWholeWithin_18 : decode cX3_isWholeWithin 18 = .ok (.iload_n 1, 1) := by decide +kernel
theorem dX3_isWholeWithin_19 : decode cX3_isWholeWithin 19 = .ok (.if_icmp .lt 11, 3) := by decide +kernel
theorem dX3_isWholeWithin_22 : decode cX3_isWholeWithin 22 = .ok (.aload_n 0, 1) := by decide +kernel
theorem dX3_isWholeWithin_23 : decode cX3_isWholeWithin 23 = .ok (.getfield 74, 3) := by decide +kernel
theorem dX3_isWholeWithin_26 : decode cX3_isWholeWithin 26 = .ok (.iload_n 2, 1) := by decide +kernel
theorem dX3_isWholeWithin_27 : decode cX3_isWholeWithin 27 = .ok (.if_icmp .le 11, 3) := by decide +kernel
theorem dX3_isWholeWithin_30 : decode cX3_isWholeWithin 30 = .ok (.aload_n 0, 1) := by decide +kernel
theorem dX3_isWholeWithin_31 : decode cX3_isWholeWithin 31 = .ok (.iconst 2, 1) := by decide +kernel
theorem dX3_isWholeWithin_32 : decode cX3_isWholeWithin 32 = .ok (.invokevirtual 51, 3) := by decide +kernel
theorem dX3_isWholeWithin_35 : decode cX3_isWholeWithin 35 = .ok (.ifCond .eq 7, 3) := by decide +kernel
theorem dX3_isWholeWithin_38 : decode cX3_isWholeWithin 38 = .ok (.iconst 1, 1) := by decide +kernel
theorem dX3_isWholeWithin_39 : decode cX3_isWholeWithin 39 = .ok (.goto 4, 3) := by decide +kernel
theorem dX3_isWholeWithin_42 : decode cX3_isWholeWithin 42 = .ok (.iconst 0, 1) := by decide +kernel
theorem dX3_isWholeWithin_43 : decode cX3_isWholeWithin 43 = .ok (.ireturn, 1) := by decide +kernel
theorem dX3_jointAtHand_0 : decode cX3_jointAtHand 0 = .ok (.aload_n 0, 1) := by decide +kernel
theorem dX3_jointAtHand_1 : decode cX3_jointAtHand 1 = .ok (.invokevirtual 134, 3) := by decide +kernel
theorem dX3_jointAtHand_4 : decode cX3_jointAtHand 4 = .ok (.ifCond .eq 17, 3) := by decide +kernel
theorem dX3_jointAtHand_7 : decode cX3_jointAtHand 7 = .ok (.aload_n 0, 1) := by decide +kernel
theorem dX3_jointAtHand_8 : decode cX3_jointAtHand 8 = .ok (.getfield 12, 3) := by decide +kernel
theorem dX3_jointAtHand_11 : decode cX3_jointAtHand 11 = .ok (.aload_n 0, 1) := by decide +kernel
theorem dX3_jointAtHand_12 : decode cX3_jointAtHand 12 = .ok (.getfield 88, 3) := by decide +kernel
theorem dX3_jointAtHand_15 : decode cX3_jointAtHand 15 = .ok (.invokevirtual 137, 3) := by decide +kernel
theorem dX3_jointAtHand_18 : decode cX3_jointAtHand 18 = .ok (.goto 4, 3) := by decide +kernel
theorem dX3_jointAtHand_21 : decode cX3_jointAtHand 21 = .ok (.iconst (-1), 1) := by decide +kernel
theorem dX3_jointAtHand_22 : decode cX3_jointAtHand 22 = .ok (.istore_n 1, 1) := by decide +kernel
theorem dX3_jointAtHand_23 : decode cX3_jointAtHand 23 = .ok (.iload_n 1, 1) := by decide +kernel
theorem dX3_jointAtHand_24 : decode cX3_jointAtHand 24 = .ok (.iconst (-1), 1) := by decide +kernel
theorem dX3_jointAtHand_25 : decode cX3_jointAtHand 25 = .ok (.if_icmp .ne 20, 3) := by decide +kernel
theorem dX3_jointAtHand_28 : decode cX3_jointAtHand 28 = .ok (.aload_n 0, 1) := by decide +kernel
theorem dX3_jointAtHand_29 : decode cX3_jointAtHand 29 = .ok (.aload_n 0, 1) := by decide +kernel
theorem dX3_jointAtHand_30 : decode cX3_jointAtHand 30 = .ok (.invokevirtual 134, 3) := by decide +kernel
theorem dX3_jointAtHand_33 : decode cX3_jointAtHand 33 = .ok (.ifCond .eq 7, 3) := by decide +kernel
theorem dX3_jointAtHand_36 : decode cX3_jointAtHand 36 = .ok (.iconst 3, 1) := by decide +kernel
theorem dX3_jointAtHand_37 : decode cX3_jointAtHand 37 = .ok (.goto 4, 3) := by decide +kernel
theorem dX3_jointAtHand_40 : decode cX3_jointAtHand 40 = .ok (.iconst 1, 1) := by decide +kernel
theorem dX3_jointAtHand_41 : decode cX3_jointAtHand 41 = .ok (.invokevirtual 51, 3) := by decide +kernel
theorem dX3_jointAtHand_44 : decode cX3_jointAtHand 44 = .ok (.pop, 1) := by decide +kernel
theorem dX3_jointAtHand_45 : decode cX3_jointAtHand 45 = .ok (.iload_n 1, 1) := by decide +kernel
theorem dX3_jointAtHand_46 : decode cX3_jointAtHand 46 = .ok (.ireturn, 1) := by decide +kernel
theorem dX3_isName_0 : decode cX3_isName 0 = .ok (.aload_n 0, 1) := by decide +kernel
theorem dX3_isName_1 : decode cX3_isName 1 = .ok (.getfield 42, 3) := by decide +kernel
theorem dX3_isName_4 : decode cX3_isName 4 = .ok (.iconst 1, 1) := by decide +kernel
theorem dX3_isName_5 : decode cX3_isName 5 = .ok (.if_icmp .ne 73, 3) := by decide +kernel
theorem dX3_isName_8 : decode cX3_isName 8 = .ok (.aload_n 0, 1) := by decide +kernel
theorem dX3_isName_9 : decode cX3_isName 9 = .ok (.getfield 88, 3) := by decide +kernel
theorem dX3_isName_12 : decode cX3_isName 12 = .ok (.ldc2_w 61, 3) := by decide +kernel
theorem dX3_isName_15 : decode cX3_isName 15 = .ok (.lcmp, 1) := by decide +kernel
theorem dX3_isName_16 : decode cX3_isName 16 = .ok (.ifCond .eq 62, 3) := by decide +kernel
theorem dX3_isName_19 : decode cX3_isName 19 = .ok (.aload_n 0, 1) := by decide +kernel
theorem dX3_isName_20 : decode cX3_isName 20 = .ok (.getfield 88, 3) := by decide +kernel
theorem dX3_isName_23 : decode cX3_isName 23 = .ok (.ldc2_w 91, 3) := by decide +kernel
theorem dX3_isName_26 : decode cX3_isName 26 = .ok (.lcmp, 1) := by decide +kernel
theorem dX3_isName_27 : decode cX3_isName 27 = .ok (.ifCond .eq 51, 3) := by decide +kernel
theorem dX3_isName_30 : decode cX3_isName 30 = .ok (.aload_n 0, 1) := by decide +kernel
theorem dX3_isName_31 : decode cX3_isName 31 = .ok (.getfield 88, 3) := by decide +kernel
theorem dX3_isName_34 : decode cX3_isName 34 = .ok (.ldc2_w 108, 3) := by decide +kernel
theorem dX3_isName_37 : decode cX3_isName 37 = .ok (.lcmp, 1) := by decide +kernel
theorem dX3_isName_38 : decode cX3_isName 38 = .ok (.ifCond .eq 40, 3) := by decide +kernel
theorem dX3_isName_41 : decode cX3_isName 41 = .ok (.aload_n 0, 1) := by decide +kernel
theorem dX3_isName_42 : decode cX3_isName 42 = .ok (.getfield 88, 3) := by decide +kernel
theorem dX3_isName_45 : decode cX3_isName 45 = .ok (.ldc2_w 96, 3) := by decide +kernel
theorem dX3_isName_48 : decode cX3_isName 48 = .ok (.lcmp, 1) := by decide +kernel
theorem dX3_isName_49 : decode cX3_isName 49 = .ok (.ifCond .eq 29, 3) := by decide +kernel
theorem dX3_isName_52 : decode cX3_isName 52 = .ok (.aload_n 0, 1) := by decide +kernel
theorem dX3_isName_53 : decode cX3_isName 53 = .ok (.getfield 88, 3) := by decide +kernel
theorem dX3_isName_56 : decode cX3_isName 56 = .ok (.ldc2_w 101, 3) := by decide +kernel
theorem dX3_isName_59 : decode cX3_isName 59 = .ok (.lcmp, 1) := by decide +kernel
theorem dX3_isName_60 : decode cX3_isName 60 = .ok (.ifCond .eq 18, 3) := by decide +kernel
theorem dX3_isName_63 : decode cX3_isName 63 = .ok (.aload_n 0, 1) := by decide +kernel
theorem dX3_isName_64 : decode cX3_isName 64 = .ok (.getfield 88, 3) := by decide +kernel
theorem dX3_isName_67 : decode cX3_isName 67 = .ok (.ldc2_w 103, 3) := by decide +kernel
theorem dX3_isName_70 : decode cX3_isName 70 = .ok (.lcmp, 1) := by decide +kernel
theorem dX3_isName_71 : decode cX3_isName 71 = .ok (.ifCond .eq 7, 3) := by decide +kernel
theorem dX3_isName_74 : decode cX3_isName 74 = .ok (.iconst 1, 1) := by decide +kernel
theorem dX3_isName_75 : decode cX3_isName 75 = .ok (.goto 4, 3) := by decide +kernel
theorem dX3_isName_78 : decode cX3_isName 78 = .ok (.iconst 0, 1) := by decide +kernel
theorem dX3_isName_79 : decode cX3_isName 79 = .ok (.ireturn, 1) := by decide +kernel
theorem dX3_readToken_0 : decode cX3_readToken 0 = .ok (.aload_n 0, 1) := by decide +kernel
theorem dX3_readToken_1 : decode cX3_readToken 1 = .ok (.getfield 26, 3) := by decide +kernel
theorem dX3_readToken_4 : decode cX3_readToken 4 = .ok (.aload_n 0, 1) := by decide +kernel
theorem dX3_readToken_5 : decode cX3_readToken 5 = .ok (.getfield 22, 3) := by decide +kernel
theorem dX3_readToken_8 : decode cX3_readToken 8 = .ok (.if_icmp .ge 30, 3) := by decide +kernel
theorem dX3_readToken_11 : decode cX3_readToken 11 = .ok (.aload_n 0, 1) := by decide +kernel
theorem dX3_readToken_12 : decode cX3_readToken 12 = .ok (.getfield 18, 3) := by decide +kernel
theorem dX3_readToken_15 : decode cX3_readToken 15 = .ok (.aload_n 0, 1) := by decide +kernel
theorem dX3_readToken_16 : decode cX3_readToken 16 = .ok (.getfield 26, 3) := by decide +kernel
theorem dX3_readToken_19 : decode cX3_readToken 19 = .ok (.baload, 1) := by decide +kernel
theorem dX3_readToken_20 : decode cX3_readToken 20 = .ok (.bipush 32, 2) := by decide +kernel
theorem dX3_readToken_22 : decode cX3_readToken 22 = .ok (.if_icmp .ne 16, 3) := by decide +kernel
theorem dX3_readToken_25 : decode cX3_readToken 25 = .ok (.aload_n 0, 1) := by decide +kernel
theorem dX3_readToken_26 : decode cX3_readToken 26 = .ok (.dup, 1) := by decide +kernel
theorem dX3_readToken_27 : decode cX3_readToken 27 = .ok (.getfield 26, 3) := by decide +kernel
theorem dX3_readToken_30 : decode cX3_readToken 30 = .ok (.iconst 1, 1) := by decide +kernel
theorem dX3_readToken_31 : decode cX3_readToken 31 = .ok (.iadd, 1) := by decide +kernel
theorem dX3_readToken_32 : decode cX3_readToken 32 = .ok (.putfield 26, 3) := by decide +kernel
theorem dX3_readToken_35 : decode cX3_readToken 35 = .ok (.goto (-35), 3) := by decide +kernel
theorem dX3_readToken_38 : decode cX3_readToken 38 = .ok (.aload_n 0, 1) := by decide +kernel
theorem dX3_readToken_39 : decode cX3_readToken 39 = .ok (.aload_n 0, 1) := by decide +kernel
theorem dX3_readToken_40 : decode cX3_readToken 40 = .ok (.getfield 26, 3) := by decide +kernel
theorem dX3_readToken_43 : decode cX3_readToken 43 = .ok (.putfield 141, 3) := by decide +kernel
theorem dX3_readToken_46 : decode cX3_readToken 46 = .ok (.aload_n 0, 1) := by decide +kernel
theorem dX3_readToken_47 : decode cX3_readToken 47 = .ok (.getfield 26, 3) := by decide +kernel
theorem dX3_readToken_50 : decode cX3_readToken 50 = .ok (.aload_n 0, 1) := by decide +kernel
theorem dX3_readToken_51 : decode cX3_readToken 51 = .ok (.getfield 22, 3) := by decide +kernel
theorem dX3_readToken_54 : decode cX3_readToken 54 = .ok (.if_icmp .lt 11, 3) := by decide +kernel
theorem dX3_readToken_57 : decode cX3_readToken 57 = .ok (.aload_n 0, 1) := by decide +kernel
theorem dX3_readToken_58 : decode cX3_readToken 58 = .ok (.iconst 0, 1) := by decide +kernel
theorem dX3_readToken_59 : decode cX3_readToken 59 = .ok (.putfield 42, 3) := by decide +kernel
theorem dX3_readToken_62 : decode cX3_readToken 62 = .ok (.goto 98, 3) := by decide +kernel
theorem dX3_readToken_65 : decode cX3_readToken 65 = .ok (.aload_n 0, 1) := by decide +kernel
theorem dX3_readToken_66 : decode cX3_readToken 66 = .ok (.getfield 18, 3) := by decide +kernel
theorem dX3_readToken_69 : decode cX3_readToken 69 = .ok (.aload_n 0, 1) := by decide +kernel
theorem dX3_readToken_70 : decode cX3_readToken 70 = .ok (.getfield 26, 3) := by decide +kernel
theorem dX3_readToken_73 : decode cX3_readToken 73 = .ok (.baload, 1) := by decide +kernel
theorem dX3_readToken_74 : decode cX3_readToken 74 = .ok (.invokestatic 144, 3) := by decide +kernel
theorem dX3_readToken_77 : decode cX3_readToken 77 = .ok (.ifCond .eq 10, 3) := by decide +kernel
theorem dX3_readToken_80 : decode cX3_readToken 80 = .ok (.aload_n 0, 1) := by decide +kernel
theorem dX3_readToken_81 : decode cX3_readToken 81 = .ok (.invokevirtual 147, 3) := by decide +kernel
theorem dX3_readToken_84 : decode cX3_readToken 84 = .ok (.goto 76, 3) := by decide +kernel
theorem dX3_readToken_87 : decode cX3_readToken 87 = .ok (.aload_n 0, 1) := by decide +kernel
theorem dX3_readToken_88 : decode cX3_readToken 88 = .ok (.getfield 18, 3) := by decide +kernel
theorem dX3_readToken_91 : decode cX3_readToken 91 = .ok (.aload_n 0, 1) := by decide +kernel
theorem dX3_readToken_92 : decode cX3_readToken 92 = .ok (.getfield 26, 3) := by decide +kernel
theorem dX3_readToken_95 : decode cX3_readToken 95 = .ok (.baload, 1) := by decide +kernel
theorem dX3_readToken_96 : decode cX3_readToken 96 = .ok (.invokestatic 150, 3) := by decide +kernel
theorem dX3_readToken_99 : decode cX3_readToken 99 = .ok (.ifCond .eq 10, 3) := by decide +kernel
theorem dX3_readToken_102 : decode cX3_readToken 102 = .ok (.aload_n 0, 1) := by decide +kernel
theorem dX3_readToken_103 : decode cX3_readToken 103 = .ok (.invokevirtual 153, 3) := by decide +kernel
theorem dX3_readToken_106 : decode cX3_readToken 106 = .ok (.goto 54, 3) := by decide +kernel
theorem dX3_readToken_109 : decode cX3_readToken 109 = .ok (.aload_n 0, 1) := by decide +kernel
theorem dX3_readToken_110 : decode cX3_readToken 110 = .ok (.aload_n 0, 1) := by decide +kernel
theorem dX3_readToken_111 : decode cX3_readToken 111 = .ok (.getfield 18, 3) := by decide +kernel
theorem dX3_readToken_114 : decode cX3_readToken 114 = .ok (.aload_n 0, 1) := by decide +kernel
theorem dX3_readToken_115 : decode cX3_readToken 115 = .ok (.getfield 26, 3) := by decide +kernel
theorem dX3_readToken_118 : decode cX3_readToken 118 = .ok (.baload, 1) := by decide +kernel
theorem dX3_readToken_119 : decode cX3_readToken 119 = .ok (.bipush 59, 2) := by decide +kernel
theorem dX3_readToken_121 : decode cX3_readToken 121 = .ok (.if_icmp .ne 7, 3) := by decide +kernel
theorem dX3_readToken_124 : decode cX3_readToken 124 = .ok (.iconst 3, 1) := by decide +kernel
theorem dX3_readToken_125 : decode cX3_readToken 125 = .ok (.goto 22, 3) := by decide +kernel
theorem dX3_readToken_128 : decode cX3_readToken 128 = .ok (.aload_n 0, 1) := by decide +kernel
theorem dX3_readToken_129 : decode cX3_readToken 129 = .ok (.getfield 18, 3) := by decide +kernel
theorem dX3_readToken_132 : decode cX3_readToken 132 = .ok (.aload_n 0, 1) := by decide +kernel
theorem dX3_readToken_133 : decode cX3_readToken 133 = .ok (.getfield 26, 3) := by decide +kernel
theorem dX3_readToken_136 : decode cX3_readToken 136 = .ok (.baload, 1) := by decide +kernel
theorem dX3_readToken_137 : decode cX3_readToken 137 = .ok (.bipush 44, 2) := by decide +kernel
theorem dX3_readToken_139 : decode cX3_readToken 139 = .ok (.if_icmp .ne 7, 3) := by decide +kernel
theorem dX3_readToken_142 : decode cX3_readToken 142 = .ok (.iconst 4, 1) := by decide +kernel
theorem dX3_readToken_143 : decode cX3_readToken 143 = .ok (.goto 4, 3) := by decide +kernel
theorem dX3_readToken_146 : decode cX3_readToken 146 = .ok (.iconst 5, 1) := by decide +kernel
theorem dX3_readToken_147 : decode cX3_readToken 147 = .ok (.putfield 42, 3) := by decide +kernel
theorem dX3_readToken_150 : decode cX3_readToken 150 = .ok (.aload_n 0, 1) := by decide +kernel
theorem dX3_readToken_151 : decode cX3_readToken 151 = .ok (.dup, 1) := by decide +kernel
theorem dX3_readToken_152 : decode cX3_readToken 152 = .ok (.getfield 26, 3) := by decide +kernel
theorem dX3_readToken_155 : decode cX3_readToken 155 = .ok (.iconst 1, 1) := by decide +kernel
theorem dX3_readToken_156 : decode cX3_readToken 156 = .ok (.iadd, 1) := by decide +kernel
theorem dX3_readToken_157 : decode cX3_readToken 157 = .ok (.putfield 26, 3) := by decide +kernel
theorem dX3_readToken_160 : decode cX3_readToken 160 = .ok (.return_, 1) := by decide +kernel
theorem dX3_readWord_0 : decode cX3_readWord 0 = .ok (.aload_n 0, 1) := by decide +kernel
theorem dX3_readWord_1 : decode cX3_readWord 1 = .ok (.getfield 26, 3) := by decide +kernel
theorem dX3_readWord_4 : decode cX3_readWord 4 = .ok (.aload_n 0, 1) := by decide +kernel
theorem dX3_readWord_5 : decode cX3_readWord 5 = .ok (.getfield 22, 3) := by decide +kernel
theorem dX3_readWord_8 : decode cX3_readWord 8 = .ok (.if_icmp .ge 31, 3) := by decide +kernel
theorem dX3_readWord_11 : decode cX3_readWord 11 = .ok (.aload_n 0, 1) := by decide +kernel
theorem dX3_readWord_12 : decode cX3_readWord 12 = .ok (.getfield 18, 3) := by decide +kernel
theorem dX3_readWord_15 : decode cX3_readWord 15 = .ok (.aload_n 0, 1) := by decide +kernel
theorem dX3_readWord_16 : decode cX3_readWord 16 = .ok (.getfield 26, 3) := by decide +kernel
theorem dX3_readWord_19 : decode cX3_readWord 19 = .ok (.baload, 1) := by decide +kernel
theorem dX3_readWord_20 : decode cX3_readWord 20 = .ok (.invokestatic 144, 3) := by decide +kernel
theorem dX3_readWord_23 : decode cX3_readWord 23 = .ok (.ifCond .eq 16, 3) := by decide +kernel
theorem dX3_readWord_26 : decode cX3_readWord 26 = .ok (.aload_n 0, 1) := by decide +kernel
theorem dX3_readWord_27 : decode cX3_readWord 27 = .ok (.dup, 1) := by decide +kernel
theorem dX3_readWord_28 : decode cX3_readWord 28 = .ok (.getfield 26, 3) := by decide +kernel
theorem dX3_readWord_31 : decode cX3_readWord 31 = .ok (.iconst 1, 1) := by decide +kernel
theorem dX3_readWord_32 : decode cX3_readWord 32 = .ok (.iadd, 1) := by decide +kernel
theorem dX3_readWord_33 : decode cX3_readWord 33 = .ok (.putfield 26, 3) := by decide +kernel
theorem dX3_readWord_36 : decode cX3_readWord 36 = .ok (.goto (-36), 3) := by decide +kernel
theorem dX3_readWord_39 : decode cX3_readWord 39 = .ok (.aload_n 0, 1) := by decide +kernel
theorem dX3_readWord_40 : decode cX3_readWord 40 = .ok (.aload_n 0, 1) := by decide +kernel
theorem dX3_readWord_41 : decode cX3_readWord 41 = .ok (.getfield 26, 3) := by decide +kernel
theorem dX3_readWord_44 : decode cX3_readWord 44 = .ok (.aload_n 0, 1) := by decide +kernel
theorem dX3_readWord_45 : decode cX3_readWord 45 = .ok (.getfield 141, 3) := by decide +kernel
theorem dX3_readWord_48 : decode cX3_readWord 48 = .ok (.isub, 1) := by decide +kernel
theorem dX3_readWord_49 : decode cX3_readWord 49 = .ok (.bipush 6, 2) := by decide +kernel
theorem dX3_readWord_51 : decode cX3_readWord 51 = .ok (.if_icmp .gt 7, 3) := by decide +kernel
theorem dX3_readWord_54 : decode cX3_readWord 54 = .ok (.iconst 1, 1) := by decide +kernel
theorem dX3_readWord_55 : decode cX3_readWord 55 = .ok (.goto 4, 3) := by decide +kernel
theorem dX3_readWord_58 : decode cX3_readWord 58 = .ok (.iconst 5, 1) := by decide +kernel
theorem dX3_readWord_59 : decode cX3_readWord 59 = .ok (.putfield 42, 3) := by decide +kernel
theorem dX3_readWord_62 : decode cX3_readWord 62 = .ok (.aload_n 0, 1) := by decide +kernel
theorem dX3_readWord_63 : decode cX3_readWord 63 = .ok (.aload_n 0, 1) := by decide +kernel
theorem dX3_readWord_64 : decode cX3_readWord 64 = .ok (.getfield 18, 3) := by decide +kernel
theorem dX3_readWord_67 : decode cX3_readWord 67 = .ok (.aload_n 0, 1) := by decide +kernel
theorem dX3_readWord_68 : decode cX3_readWord 68 = .ok (.getfield 141, 3) := by decide +kernel
theorem dX3_readWord_71 : decode cX3_readWord 71 = .ok (.aload_n 0, 1) := by decide +kernel
theorem dX3_readWord_72 : decode cX3_readWord 72 = .ok (.getfield 26, 3) := by decide +kernel
theorem dX3_readWord_75 : decode cX3_readWord 75 = .ok (.invokestatic 156, 3) := by decide +kernel
theorem dX3_readWord_78 : decode cX3_readWord 78 = .ok (.putfield 88, 3) := by decide +kernel
theorem dX3_readWord_81 : decode cX3_readWord 81 = .ok (.return_, 1) := by decide +kernel
theorem dX3_readWhole_0 : decode cX3_readWhole 0 = .ok (.aload_n 0, 1) := by decide +kernel
theorem dX3_readWhole_1 : decode cX3_readWhole 1 = .ok (.iconst 0, 1) := by decide +kernel
theorem dX3_readWhole_2 : decode cX3_readWhole 2 = .ok (.putfield 74, 3) := by decide +kernel
theorem dX3_readWhole_5 : decode cX3_readWhole 5 = .ok (.aload_n 0, 1) := by decide +kernel
theorem dX3_readWhole_6 : decode cX3_readWhole 6 = .ok (.getfield 26, 3) := by decide +kernel
theorem dX3_readWhole_9 : decode cX3_readWhole 9 = .ok (.aload_n 0, 1) := by decide +kernel
theorem dX3_readWhole_10 : decode cX3_readWhole 10 = .ok (.getfield 22, 3) := by decide +kernel
theorem dX3_readWhole_13 : decode cX3_readWhole 13 = .ok (.if_icmp .ge 55, 3) := by decide +kernel
theorem dX3_readWhole_16 : decode cX3_readWhole 16 = .ok (.aload_n 0, 1) := by decide +kernel
theorem dX3_readWhole_17 : decode cX3_readWhole 17 = .ok (.getfield 18, 3) := by decide +kernel
theorem dX3_readWhole_20 : decode cX3_readWhole 20 = .ok (.aload_n 0, 1) := by decide +kernel
theorem dX3_readWhole_21 : decode cX3_readWhole 21 = .ok (.getfield 26, 3) := by decide +kernel
theorem dX3_readWhole_24 : decode cX3_readWhole 24 = .ok (.baload, 1) := by decide +kernel
theorem dX3_readWhole_25 : decode cX3_readWhole 25 = .ok (.invokestatic 150, 3) := by decide +kernel
theorem dX3_readWhole_28 : decode cX3_readWhole 28 = .ok (.ifCond .eq 40, 3) := by decide +kernel
theorem dX3_readWhole_31 : decode cX3_readWhole 31 = .ok (.aload_n 0, 1) := by decide +kernel
theorem dX3_readWhole_32 : decode cX3_readWhole 32 = .ok (.bipush 10, 2) := by decide +kernel
theorem dX3_readWhole_34 : decode cX3_readWhole 34 = .ok (.aload_n 0, 1) := by decide +kernel
theorem dX3_readWhole_35 : decode cX3_readWhole 35 = .ok (.getfield 74, 3) := by decide +kernel
theorem dX3_readWhole_38 : decode cX3_readWhole 38 = .ok (.imul, 1) := by decide +kernel
theorem dX3_readWhole_39 : decode cX3_readWhole 39 = .ok (.aload_n 0, 1) := by decide +kernel
theorem dX3_readWhole_40 : decode cX3_readWhole 40 = .ok (.getfield 18, 3) := by decide +kernel
theorem dX3_readWhole_43 : decode cX3_readWhole 43 = .ok (.aload_n 0, 1) := by decide +kernel
theorem dX3_readWhole_44 : decode cX3_readWhole 44 = .ok (.getfield 26, 3) := by decide +kernel
theorem dX3_readWhole_47 : decode cX3_readWhole 47 = .ok (.baload, 1) := by decide +kernel
theorem dX3_readWhole_48 : decode cX3_readWhole 48 = .ok (.iadd, 1) := by decide +kernel
theorem dX3_readWhole_49 : decode cX3_readWhole 49 = .ok (.bipush 48, 2) := by decide +kernel
theorem dX3_readWhole_51 : decode cX3_readWhole 51 = .ok (.isub, 1) := by decide +kernel
theorem dX3_readWhole_52 : decode cX3_readWhole 52 = .ok (.putfield 74, 3) := by decide +kernel
theorem dX3_readWhole_55 : decode cX3_readWhole 55 = .ok (.aload_n 0, 1) := by decide +kernel
theorem dX3_readWhole_56 : decode cX3_readWhole 56 = .ok (.dup, 1) := by decide +kernel
theorem dX3_readWhole_57 : decode cX3_readWhole 57 = .ok (.getfield 26, 3) := by decide +kernel
theorem dX3_readWhole_60 : decode cX3_readWhole 60 = .ok (.iconst 1, 1) := by decide +kernel
theorem dX3_readWhole_61 : decode cX3_readWhole 61 = .ok (.iadd, 1) := by decide +kernel
theorem dX3_readWhole_62 : decode cX3_readWhole 62 = .ok (.putfield 26, 3) := by decide +kernel
theorem dX3_readWhole_65 : decode cX3_readWhole 65 = .ok (.goto (-60), 3) := by decide +kernel
theorem dX3_readWhole_68 : decode cX3_readWhole 68 = .ok (.aload_n 0, 1) := by decide +kernel
theorem dX3_readWhole_69 : decode cX3_readWhole 69 = .ok (.aload_n 0, 1) := by decide +kernel
theorem dX3_readWhole_70 : decode cX3_readWhole 70 = .ok (.getfield 26, 3) := by decide +kernel
theorem dX3_readWhole_73 : decode cX3_readWhole 73 = .ok (.aload_n 0, 1) := by decide +kernel
theorem dX3_readWhole_74 : decode cX3_readWhole 74 = .ok (.getfield 141, 3) := by decide +kernel
theorem dX3_readWhole_77 : decode cX3_readWhole 77 = .ok (.isub, 1) := by decide +kernel
theorem dX3_readWhole_78 : decode cX3_readWhole 78 = .ok (.iconst 3, 1) := by decide +kernel
theorem dX3_readWhole_79 : decode cX3_readWhole 79 = .ok (.if_icmp .gt 7, 3) := by decide +kernel
theorem dX3_readWhole_82 : decode cX3_readWhole 82 = .ok (.iconst 2, 1) := by decide +kernel
theorem dX3_readWhole_83 : decode cX3_readWhole 83 = .ok (.goto 4, 3) := by decide +kernel
theorem dX3_readWhole_86 : decode cX3_readWhole 86 = .ok (.iconst 5, 1) := by decide +kernel
theorem dX3_readWhole_87 : decode cX3_readWhole 87 = .ok (.putfield 42, 3) := by decide +kernel
theorem dX3_readWhole_90 : decode cX3_readWhole 90 = .ok (.return_, 1) := by decide +kernel
theorem dX3_isLetter_0 : decode cX3_isLetter 0 = .ok (.iload_n 0, 1) := by decide +kernel
theorem dX3_isLetter_1 : decode cX3_isLetter 1 = .ok (.bipush 97, 2) := by decide +kernel
theorem dX3_isLetter_3 : decode cX3_isLetter 3 = .ok (.if_icmp .lt 13, 3) := by decide +kernel
theorem dX3_isLetter_6 : decode cX3_isLetter 6 = .ok (.iload_n 0, 1) := by decide +kernel
theorem dX3_isLetter_7 : decode cX3_isLetter 7 = .ok (.bipush 122, 2) := by decide +kernel
theorem dX3_isLetter_9 : decode cX3_isLetter 9 = .ok (.if_icmp .gt 7, 3) := by decide +kernel
theorem dX3_isLetter_12 : decode cX3_isLetter 12 = .ok (.iconst 1, 1) := by decide +kernel
theorem dX3_isLetter_13 : decode cX3_isLetter 13 = .ok (.goto 4, 3) := by decide +kernel
theorem dX3_isLetter_16 : decode cX3_isLetter 16 = .ok (.iconst 0, 1) := by decide +kernel
theorem dX3_isLetter_17 : decode cX3_isLetter 17 = .ok (.ireturn, 1) := by decide +kernel
theorem dX3_isDigit_0 : decode cX3_isDigit 0 = .ok (.iload_n 0, 1) := by decide +kernel
theorem dX3_isDigit_1 : decode cX3_isDigit 1 = .ok (.bipush 48, 2) := by decide +kernel
theorem dX3_isDigit_3 : decode cX3_isDigit 3 = .ok (.if_icmp .lt 13, 3) := by decide +kernel
theorem dX3_isDigit_6 : decode cX3_isDigit 6 = .ok (.iload_n 0, 1) := by decide +kernel
theorem dX3_isDigit_7 : decode cX3_isDigit 7 = .ok (.bipush 57, 2) := by decide +kernel
theorem dX3_isDigit_9 : decode cX3_isDigit 9 = .ok (.if_icmp .gt 7, 3) := by decide +kernel
theorem dX3_isDigit_12 : decode cX3_isDigit 12 = .ok (.iconst 1, 1) := by decide +kernel
theorem dX3_isDigit_13 : decode cX3_isDigit 13 = .ok (.goto 4, 3) := by decide +kernel
theorem dX3_isDigit_16 : decode cX3_isDigit 16 = .ok (.iconst 0, 1) := by decide +kernel
theorem dX3_isDigit_17 : decode cX3_isDigit 17 = .ok (.ireturn, 1) := by decide +kernel
theorem dX3_packed_0 : decode cX3_packed 0 = .ok (.lconst 0, 1) := by decide +kernel
theorem dX3_packed_1 : decode cX3_packed 1 = .ok (.lstore_n 3, 1) := by decide +kernel
theorem dX3_packed_2 : decode cX3_packed 2 = .ok (.iload_n 1, 1) := by decide +kernel
theorem dX3_packed_3 : decode cX3_packed 3 = .ok (.istore 5, 2) := by decide +kernel
theorem dX3_packed_5 : decode cX3_packed 5 = .ok (.iload 5, 2) := by decide +kernel
theorem dX3_packed_7 : decode cX3_packed 7 = .ok (.iload_n 2, 1) := by decide +kernel
theorem dX3_packed_8 : decode cX3_packed 8 = .ok (.if_icmp .ge 20, 3) := by decide +kernel
theorem dX3_packed_11 : decode cX3_packed 11 = .ok (.lload_n 3, 1) := by decide +kernel
theorem dX3_packed_12 : decode cX3_packed 12 = .ok (.bipush 8, 2) := by decide +kernel
theorem dX3_packed_14 : decode cX3_packed 14 = .ok (.lshl, 1) := by decide +kernel
theorem dX3_packed_15 : decode cX3_packed 15 = .ok (.aload_n 0, 1) := by decide +kernel
theorem dX3_packed_16 : decode cX3_packed 16 = .ok (.iload 5, 2) := by decide +kernel
theorem dX3_packed_18 : decode cX3_packed 18 = .ok (.baload, 1) := by decide +kernel
theorem dX3_packed_19 : decode cX3_packed 19 = .ok (.i2l, 1) := by decide +kernel
theorem dX3_packed_20 : decode cX3_packed 20 = .ok (.lor, 1) := by decide +kernel
theorem dX3_packed_21 : decode cX3_packed 21 = .ok (.lstore_n 3, 1) := by decide +kernel
theorem dX3_packed_22 : decode cX3_packed 22 = .ok (.iinc 5 1, 3) := by decide +kernel
theorem dX3_packed_25 : decode cX3_packed 25 = .ok (.goto (-20), 3) := by decide +kernel
theorem dX3_packed_28 : decode cX3_packed 28 = .ok (.lload_n 3, 1) := by decide +kernel
theorem dX3_packed_29 : decode cX3_packed 29 = .ok (.lreturn, 1) := by decide +kernel
theorem dX3_onlyWord_0 : decode cX3_onlyWord 0 = .ok (.iconst 0, 1) := by decide +kernel
theorem dX3_onlyWord_1 : decode cX3_onlyWord 1 = .ok (.istore_n 2, 1) := by decide +kernel
theorem dX3_onlyWord_2 : decode cX3_onlyWord 2 = .ok (.iload_n 1, 1) := by decide +kernel
theorem dX3_onlyWord_3 : decode cX3_onlyWord 3 = .ok (.istore_n 3, 1) := by decide +kernel
theorem dX3_onlyWord_4 : decode cX3_onlyWord 4 = .ok (.iload_n 2, 1) := by decide +kernel
theorem dX3_onlyWord_5 : decode cX3_onlyWord 5 = .ok (.iload_n 3, 1) := by decide +kernel
theorem dX3_onlyWord_6 : decode cX3_onlyWord 6 = .ok (.if_icmp .ge 17, 3) := by decide +kernel
theorem dX3_onlyWord_9 : decode cX3_onlyWord 9 = .ok (.aload_n 0, 1) := by decide +kernel
theorem dX3_onlyWord_10 : decode cX3_onlyWord 10 = .ok (.iload_n 2, 1) := by decide +kernel
theorem dX3_onlyWord_11 : decode cX3_onlyWord 11 = .ok (.baload, 1) := by decide +kernel
theorem dX3_onlyWord_12 : decode cX3_onlyWord 12 = .ok (.bipush 32, 2) := by decide +kernel
theorem dX3_onlyWord_14 : decode cX3_onlyWord 14 = .ok (.if_icmp .ne 9, 3) := by decide +kernel
theorem dX3_onlyWord_17 : decode cX3_onlyWord 17 = .ok (.iinc 2 1, 3) := by decide +kernel
theorem dX3_onlyWord_20 : decode cX3_onlyWord 20 = .ok (.goto (-16), 3) := by decide +kernel
theorem dX3_onlyWord_23 : decode cX3_onlyWord 23 = .ok (.iload_n 3, 1) := by decide +kernel
theorem dX3_onlyWord_24 : decode cX3_onlyWord 24 = .ok (.iload_n 2, 1) := by decide +kernel
theorem dX3_onlyWord_25 : decode cX3_onlyWord 25 = .ok (.if_icmp .le 19, 3) := by decide +kernel
theorem dX3_onlyWord_28 : decode cX3_onlyWord 28 = .ok (.aload_n 0, 1) := by decide +kernel
theorem dX3_onlyWord_29 : decode cX3_onlyWord 29 = .ok (.iload_n 3, 1) := by decide +kernel
theorem dX3_onlyWord_30 : decode cX3_onlyWord 30 = .ok (.iconst 1, 1) := by decide +kernel
theorem dX3_onlyWord_31 : decode cX3_onlyWord 31 = .ok (.isub, 1) := by decide +kernel
theorem dX3_onlyWord_32 : decode cX3_onlyWord 32 = .ok (.baload, 1) := by decide +kernel
theorem dX3_onlyWord_33 : decode cX3_onlyWord 33 = .ok (.bipush 32, 2) := by decide +kernel
theorem dX3_onlyWord_35 : decode cX3_onlyWord 35 = .ok (.if_icmp .ne 9, 3) := by decide +kernel
theorem dX3_onlyWord_38 : decode cX3_onlyWord 38 = .ok (.iinc 3 (-1), 3) := by decide +kernel
theorem dX3_onlyWord_41 : decode cX3_onlyWord 41 = .ok (.goto (-18), 3) := by decide +kernel
theorem dX3_onlyWord_44 : decode cX3_onlyWord 44 = .ok (.iload_n 2, 1) := by decide +kernel
theorem dX3_onlyWord_45 : decode cX3_onlyWord 45 = .ok (.istore 4, 2) := by decide +kernel
theorem dX3_onlyWord_47 : decode cX3_onlyWord 47 = .ok (.iload 4, 2) := by decide +kernel
theorem dX3_onlyWord_49 : decode cX3_onlyWord 49 = .ok (.iload_n 3, 1) := by decide +kernel
theorem dX3_onlyWord_50 : decode cX3_onlyWord 50 = .ok (.if_icmp .ge 21, 3) := by decide +kernel
theorem dX3_onlyWord_53 : decode cX3_onlyWord 53 = .ok (.aload_n 0, 1) := by decide +kernel
theorem dX3_onlyWord_54 : decode cX3_onlyWord 54 = .ok (.iload 4, 2) := by decide +kernel
theorem dX3_onlyWord_56 : decode cX3_onlyWord 56 = .ok (.baload, 1) := by decide +kernel
theorem dX3_onlyWord_57 : decode cX3_onlyWord 57 = .ok (.invokestatic 144, 3) := by decide +kernel
theorem dX3_onlyWord_60 : decode cX3_onlyWord 60 = .ok (.ifCond .ne 5, 3) := by decide +kernel
theorem dX3_onlyWord_63 : decode cX3_onlyWord 63 = .ok (.lconst 0, 1) := by decide +kernel
theorem dX3_onlyWord_64 : decode cX3_onlyWord 64 = .ok (.lreturn, 1) := by decide +kernel
theorem dX3_onlyWord_65 : decode cX3_onlyWord 65 = .ok (.iinc 4 1, 3) := by decide +kernel
theorem dX3_onlyWord_68 : decode cX3_onlyWord 68 = .ok (.goto (-21), 3) := by decide +kernel
