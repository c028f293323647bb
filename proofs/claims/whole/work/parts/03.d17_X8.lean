theorem dX8_widened_19 : decode cX8_widened 19 = .ok (.ifCond .eq 7, 3) := by decide +kernel
theorem dX8_widened_22 : decode cX8_widened 22 = .ok (.ldc2_w 102, 3) := by decide +kernel
theorem dX8_widened_25 : decode cX8_widened 25 = .ok (.lreturn, 1) := by decide +kernel
theorem dX8_widened_26 : decode cX8_widened 26 = .ok (.aload_n 0, 1) := by decide +kernel
theorem dX8_widened_27 : decode cX8_widened 27 = .ok (.invokevirtual 459, 3) := by decide +kernel
theorem dX8_widened_30 : decode cX8_widened 30 = .ok (.aload_n 0, 1) := by decide +kernel
theorem dX8_widened_31 : decode cX8_widened 31 = .ok (.getfield 452, 3) := by decide +kernel
theorem dX8_widened_34 : decode cX8_widened 34 = .ok (.bipush (-2), 2) := by decide +kernel
theorem dX8_widened_36 : decode cX8_widened 36 = .ok (.if_icmp .ne 11, 3) := by decide +kernel
theorem dX8_widened_39 : decode cX8_widened 39 = .ok (.aload_n 0, 1) := by decide +kernel
theorem dX8_widened_40 : decode cX8_widened 40 = .ok (.iconst 5, 1) := by decide +kernel
theorem dX8_widened_41 : decode cX8_widened 41 = .ok (.invokevirtual 407, 3) := by decide +kernel
theorem dX8_widened_44 : decode cX8_widened 44 = .ok (.goto 7, 3) := by decide +kernel
theorem dX8_widened_47 : decode cX8_widened 47 = .ok (.aload_n 0, 1) := by decide +kernel
theorem dX8_widened_48 : decode cX8_widened 48 = .ok (.getfield 455, 3) := by decide +kernel
theorem dX8_widened_51 : decode cX8_widened 51 = .ok (.lreturn, 1) := by decide +kernel
theorem dX8_measuredMany_0 : decode cX8_measuredMany 0 = .ok (.iconst 0, 1) := by decide +kernel
theorem dX8_measuredMany_1 : decode cX8_measuredMany 1 = .ok (.istore_n 1, 1) := by decide +kernel
theorem dX8_measuredMany_2 : decode cX8_measuredMany 2 = .ok (.iconst 0, 1) := by decide +kernel
theorem dX8_measuredMany_3 : decode cX8_measuredMany 3 = .ok (.istore_n 2, 1) := by decide +kernel
theorem dX8_measuredMany_4 : decode cX8_measuredMany 4 = .ok (.iload_n 2, 1) := by decide +kernel
theorem dX8_measuredMany_5 : decode cX8_measuredMany 5 = .ok (.bipush 9, 2) := by decide +kernel
theorem dX8_measuredMany_7 : decode cX8_measuredMany 7 = .ok (.if_icmp .ge 26, 3) := by decide +kernel
theorem dX8_measuredMany_10 : decode cX8_measuredMany 10 = .ok (.iload_n 1, 1) := by decide +kernel
theorem dX8_measuredMany_11 : decode cX8_measuredMany 11 = .ok (.aload_n 0, 1) := by decide +kernel
theorem dX8_measuredMany_12 : decode cX8_measuredMany 12 = .ok (.getfield 80, 3) := by decide +kernel
theorem dX8_measuredMany_15 : decode cX8_measuredMany 15 = .ok (.iload_n 2, 1) := by decide +kernel
theorem dX8_measuredMany_16 : decode cX8_measuredMany 16 = .ok (.baload, 1) := by decide +kernel
theorem dX8_measuredMany_17 : decode cX8_measuredMany 17 = .ok (.ifCond .eq 7, 3) := by decide +kernel
theorem dX8_measuredMany_20 : decode cX8_measuredMany 20 = .ok (.iconst 1, 1) := by decide +kernel
theorem dX8_measuredMany_21 : decode cX8_measuredMany 21 = .ok (.goto 4, 3) := by decide +kernel
theorem dX8_measuredMany_24 : decode cX8_measuredMany 24 = .ok (.iconst 0, 1) := by decide +kernel
theorem dX8_measuredMany_25 : decode cX8_measuredMany 25 = .ok (.iadd, 1) := by decide +kernel
theorem dX8_measuredMany_26 : decode cX8_measuredMany 26 = .ok (.istore_n 1, 1) := by decide +kernel
theorem dX8_measuredMany_27 : decode cX8_measuredMany 27 = .ok (.iinc 2 1, 3) := by decide +kernel
theorem dX8_measuredMany_30 : decode cX8_measuredMany 30 = .ok (.goto (-26), 3) := by decide +kernel
theorem dX8_measuredMany_33 : decode cX8_measuredMany 33 = .ok (.iload_n 1, 1) := by decide +kernel
theorem dX8_measuredMany_34 : decode cX8_measuredMany 34 = .ok (.ireturn, 1) := by decide +kernel
theorem dX8_measure_0 : decode cX8_measure 0 = .ok (.aload_n 0, 1) := by decide +kernel
theorem dX8_measure_1 : decode cX8_measure 1 = .ok (.aload_n 0, 1) := by decide +kernel
theorem dX8_measure_2 : decode cX8_measure 2 = .ok (.iload_n 1, 1) := by decide +kernel
theorem dX8_measure_3 : decode cX8_measure 3 = .ok (.invokevirtual 421, 3) := by decide +kernel
theorem dX8_measure_6 : decode cX8_measure 6 = .ok (.iload_n 2, 1) := by decide +kernel
theorem dX8_measure_7 : decode cX8_measure 7 = .ok (.i2l, 1) := by decide +kernel
theorem dX8_measure_8 : decode cX8_measure 8 = .ok (.ldc2_w 462, 3) := by decide +kernel
theorem dX8_measure_11 : decode cX8_measure 11 = .ok (.ldc2_w 464, 3) := by decide +kernel
theorem dX8_measure_14 : decode cX8_measure 14 = .ok (.invokestatic 131, 3) := by decide +kernel
theorem dX8_measure_17 : decode cX8_measure 17 = .ok (.invokestatic 241, 3) := by decide +kernel
theorem dX8_measure_20 : decode cX8_measure 20 = .ok (.invokevirtual 245, 3) := by decide +kernel
theorem dX8_measure_23 : decode cX8_measure 23 = .ok (.ifCond .eq 5, 3) := by decide +kernel
theorem dX8_measure_26 : decode cX8_measure 26 = .ok (.iconst (-1), 1) := by decide +kernel
theorem dX8_measure_27 : decode cX8_measure 27 = .ok (.ireturn, 1) := by decide +kernel
theorem dX8_measure_28 : decode cX8_measure 28 = .ok (.aload_n 0, 1) := by decide +kernel
theorem dX8_measure_29 : decode cX8_measure 29 = .ok (.getfield 80, 3) := by decide +kernel
theorem dX8_measure_32 : decode cX8_measure 32 = .ok (.iload_n 1, 1) := by decide +kernel
theorem dX8_measure_33 : decode cX8_measure 33 = .ok (.iconst 1, 1) := by decide +kernel
theorem dX8_measure_34 : decode cX8_measure 34 = .ok (.bastore, 1) := by decide +kernel
theorem dX8_measure_35 : decode cX8_measure 35 = .ok (.aload_n 0, 1) := by decide +kernel
theorem dX8_measure_36 : decode cX8_measure 36 = .ok (.getfield 84, 3) := by decide +kernel
theorem dX8_measure_39 : decode cX8_measure 39 = .ok (.iload_n 1, 1) := by decide +kernel
theorem dX8_measure_40 : decode cX8_measure 40 = .ok (.iload_n 2, 1) := by decide +kernel
theorem dX8_measure_41 : decode cX8_measure 41 = .ok (.iastore, 1) := by decide +kernel
theorem dX8_measure_42 : decode cX8_measure 42 = .ok (.aload_n 0, 1) := by decide +kernel
theorem dX8_measure_43 : decode cX8_measure 43 = .ok (.invokevirtual 394, 3) := by decide +kernel
theorem dX8_measure_46 : decode cX8_measure 46 = .ok (.ireturn, 1) := by decide +kernel
theorem dX8_forget_0 : decode cX8_forget 0 = .ok (.aload_n 0, 1) := by decide +kernel
theorem dX8_forget_1 : decode cX8_forget 1 = .ok (.aload_n 0, 1) := by decide +kernel
theorem dX8_forget_2 : decode cX8_forget 2 = .ok (.getfield 229, 3) := by decide +kernel
theorem dX8_forget_5 : decode cX8_forget 5 = .ok (.ifCond .le 7, 3) := by decide +kernel
theorem dX8_forget_8 : decode cX8_forget 8 = .ok (.iconst 1, 1) := by decide +kernel
theorem dX8_forget_9 : decode cX8_forget 9 = .ok (.goto 4, 3) := by decide +kernel
theorem dX8_forget_12 : decode cX8_forget 12 = .ok (.iconst 0, 1) := by decide +kernel
theorem dX8_forget_13 : decode cX8_forget 13 = .ok (.invokestatic 330, 3) := by decide +kernel
theorem dX8_forget_16 : decode cX8_forget 16 = .ok (.invokevirtual 245, 3) := by decide +kernel
theorem dX8_forget_19 : decode cX8_forget 19 = .ok (.ifCond .eq 5, 3) := by decide +kernel
theorem dX8_forget_22 : decode cX8_forget 22 = .ok (.iconst (-1), 1) := by decide +kernel
theorem dX8_forget_23 : decode cX8_forget 23 = .ok (.ireturn, 1) := by decide +kernel
theorem dX8_forget_24 : decode cX8_forget 24 = .ok (.aload_n 0, 1) := by decide +kernel
theorem dX8_forget_25 : decode cX8_forget 25 = .ok (.invokevirtual 394, 3) := by decide +kernel
theorem dX8_forget_28 : decode cX8_forget 28 = .ok (.istore_n 1, 1) := by decide +kernel
theorem dX8_forget_29 : decode cX8_forget 29 = .ok (.iconst 0, 1) := by decide +kernel
theorem dX8_forget_30 : decode cX8_forget 30 = .ok (.istore_n 2, 1) := by decide +kernel
theorem dX8_forget_31 : decode cX8_forget 31 = .ok (.iload_n 2, 1) := by decide +kernel
theorem dX8_forget_32 : decode cX8_forget 32 = .ok (.bipush 9, 2) := by decide +kernel
theorem dX8_forget_34 : decode cX8_forget 34 = .ok (.if_icmp .ge 16, 3) := by decide +kernel
theorem dX8_forget_37 : decode cX8_forget 37 = .ok (.aload_n 0, 1) := by decide +kernel
theorem dX8_forget_38 : decode cX8_forget 38 = .ok (.getfield 80, 3) := by decide +kernel
theorem dX8_forget_41 : decode cX8_forget 41 = .ok (.iload_n 2, 1) := by decide +kernel
theorem dX8_forget_42 : decode cX8_forget 42 = .ok (.iconst 0, 1) := by decide +kernel
theorem dX8_forget_43 : decode cX8_forget 43 = .ok (.bastore, 1) := by decide +kernel
theorem dX8_forget_44 : decode cX8_forget 44 = .ok (.iinc 2 1, 3) := by decide +kernel
theorem dX8_forget_47 : decode cX8_forget 47 = .ok (.goto (-16), 3) := by decide +kernel
theorem dX8_forget_50 : decode cX8_forget 50 = .ok (.iload_n 1, 1) := by decide +kernel
theorem dX8_forget_51 : decode cX8_forget 51 = .ok (.ireturn, 1) := by decide +kernel
theorem dX8_offWith_0 : decode cX8_offWith 0 = .ok (.aload_n 0, 1) := by decide +kernel
theorem dX8_offWith_1 : decode cX8_offWith 1 = .ok (.iload_n 1, 1) := by decide +kernel
theorem dX8_offWith_2 : decode cX8_offWith 2 = .ok (.iload_n 2, 1) := by decide +kernel
theorem dX8_offWith_3 : decode cX8_offWith 3 = .ok (.invokevirtual 428, 3) := by decide +kernel
theorem dX8_offWith_6 : decode cX8_offWith 6 = .ok (.lconst 0, 1) := by decide +kernel
theorem dX8_offWith_7 : decode cX8_offWith 7 = .ok (.lstore_n 3, 1) := by decide +kernel
theorem dX8_offWith_8 : decode cX8_offWith 8 = .ok (.iconst 1, 1) := by decide +kernel
theorem dX8_offWith_9 : decode cX8_offWith 9 = .ok (.istore 5, 2) := by decide +kernel
theorem dX8_offWith_11 : decode cX8_offWith 11 = .ok (.iload 5, 2) := by decide +kernel
theorem dX8_offWith_13 : decode cX8_offWith 13 = .ok (.aload_n 0, 1) := by decide +kernel
theorem dX8_offWith_14 : decode cX8_offWith 14 = .ok (.getfield 229, 3) := by decide +kernel
theorem dX8_offWith_17 : decode cX8_offWith 17 = .ok (.if_icmp .ge 56, 3) := by decide +kernel
theorem dX8_offWith_20 : decode cX8_offWith 20 = .ok (.aload_n 0, 1) := by decide +kernel
theorem dX8_offWith_21 : decode cX8_offWith 21 = .ok (.getfield 80, 3) := by decide +kernel
theorem dX8_offWith_24 : decode cX8_offWith 24 = .ok (.iload 5, 2) := by decide +kernel
theorem dX8_offWith_26 : decode cX8_offWith 26 = .ok (.baload, 1) := by decide +kernel
theorem dX8_offWith_27 : decode cX8_offWith 27 = .ok (.ifCond .eq 40, 3) := by decide +kernel
theorem dX8_offWith_30 : decode cX8_offWith 30 = .ok (.lload_n 3, 1) := by decide +kernel
theorem dX8_offWith_31 : decode cX8_offWith 31 = .ok (.aload_n 0, 1) := by decide +kernel
theorem dX8_offWith_32 : decode cX8_offWith 32 = .ok (.iload 5, 2) := by decide +kernel
theorem dX8_offWith_34 : decode cX8_offWith 34 = .ok (.invokevirtual 272, 3) := by decide +kernel
theorem dX8_offWith_37 : decode cX8_offWith 37 = .ok (.ifCond .eq 25, 3) := by decide +kernel
theorem dX8_offWith_40 : decode cX8_offWith 40 = .ok (.aload_n 0, 1) := by decide +kernel
theorem dX8_offWith_41 : decode cX8_offWith 41 = .ok (.getfield 65, 3) := by decide +kernel
theorem dX8_offWith_44 : decode cX8_offWith 44 = .ok (.iload 5, 2) := by decide +kernel
theorem dX8_offWith_46 : decode cX8_offWith 46 = .ok (.laload, 1) := by decide +kernel
theorem dX8_offWith_47 : decode cX8_offWith 47 = .ok (.aload_n 0, 1) := by decide +kernel
theorem dX8_offWith_48 : decode cX8_offWith 48 = .ok (.getfield 84, 3) := by decide +kernel
theorem dX8_offWith_51 : decode cX8_offWith 51 = .ok (.iload 5, 2) := by decide +kernel
theorem dX8_offWith_53 : decode cX8_offWith 53 = .ok (.iaload, 1) := by decide +kernel
theorem dX8_offWith_54 : decode cX8_offWith 54 = .ok (.i2l, 1) := by decide +kernel
theorem dX8_offWith_55 : decode cX8_offWith 55 = .ok (.lsub, 1) := by decide +kernel
theorem dX8_offWith_56 : decode cX8_offWith 56 = .ok (.invokestatic 466, 3) := by decide +kernel
theorem dX8_offWith_59 : decode cX8_offWith 59 = .ok (.goto 6, 3) := by decide +kernel
theorem dX8_offWith_62 : decode cX8_offWith 62 = .ok (.ldc2_w 472, 3) := by decide +kernel
theorem dX8_offWith_65 : decode cX8_offWith 65 = .ok (.ladd, 1) := by decide +kernel
theorem dX8_offWith_66 : decode cX8_offWith 66 = .ok (.lstore_n 3, 1) := by decide +kernel
theorem dX8_offWith_67 : decode cX8_offWith 67 = .ok (.iinc 5 1, 3) := by decide +kernel
theorem dX8_offWith_70 : decode cX8_offWith 70 = .ok (.goto (-59), 3) := by decide +kernel
theorem dX8_offWith_73 : decode cX8_offWith 73 = .ok (.lload_n 3, 1) := by decide +kernel
theorem dX8_offWith_74 : decode cX8_offWith 74 = .ok (.lreturn, 1) := by decide +kernel
theorem dX8_off_0 : decode cX8_off 0 = .ok (.aload_n 0, 1) := by decide +kernel
theorem dX8_off_1 : decode cX8_off 1 = .ok (.iload_n 1, 1) := by decide +kernel
theorem dX8_off_2 : decode cX8_off 2 = .ok (.invokevirtual 421, 3) := by decide +kernel
theorem dX8_off_5 : decode cX8_off 5 = .ok (.iload_n 2, 1) := by decide +kernel
theorem dX8_off_6 : decode cX8_off 6 = .ok (.i2l, 1) := by decide +kernel
theorem dX8_off_7 : decode cX8_off 7 = .ok (.lconst 0, 1) := by decide +kernel
theorem dX8_off_8 : decode cX8_off 8 = .ok (.ldc2_w 474, 3) := by decide +kernel
theorem dX8_off_11 : decode cX8_off 11 = .ok (.invokestatic 131, 3) := by decide +kernel
theorem dX8_off_14 : decode cX8_off 14 = .ok (.invokestatic 241, 3) := by decide +kernel
theorem dX8_off_17 : decode cX8_off 17 = .ok (.istore_n 3, 1) := by decide +kernel
theorem dX8_off_18 : decode cX8_off 18 = .ok (.aload_n 0, 1) := by decide +kernel
theorem dX8_off_19 : decode cX8_off 19 = .ok (.iload_n 3, 1) := by decide +kernel
theorem dX8_off_20 : decode cX8_off 20 = .ok (.ifCond .eq 7, 3) := by decide +kernel
theorem dX8_off_23 : decode cX8_off 23 = .ok (.iload_n 3, 1) := by decide +kernel
theorem dX8_off_24 : decode cX8_off 24 = .ok (.goto 15, 3) := by decide +kernel
theorem dX8_off_27 : decode cX8_off 27 = .ok (.aload_n 0, 1) := by decide +kernel
theorem dX8_off_28 : decode cX8_off 28 = .ok (.invokevirtual 394, 3) := by decide +kernel
theorem dX8_off_31 : decode cX8_off 31 = .ok (.ifCond .ne 7, 3) := by decide +kernel
theorem dX8_off_34 : decode cX8_off 34 = .ok (.iconst 5, 1) := by decide +kernel
theorem dX8_off_35 : decode cX8_off 35 = .ok (.goto 4, 3) := by decide +kernel
theorem dX8_off_38 : decode cX8_off 38 = .ok (.iconst 0, 1) := by decide +kernel
theorem dX8_off_39 : decode cX8_off 39 = .ok (.invokevirtual 245, 3) := by decide +kernel
theorem dX8_off_42 : decode cX8_off 42 = .ok (.ifCond .eq 7, 3) := by decide +kernel
theorem dX8_off_45 : decode cX8_off 45 = .ok (.ldc2_w 102, 3) := by decide +kernel
theorem dX8_off_48 : decode cX8_off 48 = .ok (.lreturn, 1) := by decide +kernel
theorem dX8_off_49 : decode cX8_off 49 = .ok (.aload_n 0, 1) := by decide +kernel
theorem dX8_off_50 : decode cX8_off 50 = .ok (.iload_n 1, 1) := by decide +kernel
theorem dX8_off_51 : decode cX8_off 51 = .ok (.iload_n 2, 1) := by decide +kernel
theorem dX8_off_52 : decode cX8_off 52 = .ok (.invokevirtual 476, 3) := by decide +kernel
theorem dX8_off_55 : decode cX8_off 55 = .ok (.lstore 4, 2) := by decide +kernel
theorem dX8_off_57 : decode cX8_off 57 = .ok (.aload_n 0, 1) := by decide +kernel
theorem dX8_off_58 : decode cX8_off 58 = .ok (.invokevirtual 435, 3) := by decide +kernel
theorem dX8_off_61 : decode cX8_off 61 = .ok (.lload 4, 2) := by decide +kernel
theorem dX8_off_63 : decode cX8_off 63 = .ok (.lreturn, 1) := by decide +kernel
theorem dX8_leak_0 : decode cX8_leak 0 = .ok (.aload_n 0, 1) := by decide +kernel
theorem dX8_leak_1 : decode cX8_leak 1 = .ok (.getfield 229, 3) := by decide +kernel
theorem dX8_leak_4 : decode cX8_leak 4 = .ok (.ifCond .le 19, 3) := by decide +kernel
theorem dX8_leak_7 : decode cX8_leak 7 = .ok (.iload_n 1, 1) := by decide +kernel
theorem dX8_leak_8 : decode cX8_leak 8 = .ok (.i2l, 1) := by decide +kernel
theorem dX8_leak_9 : decode cX8_leak 9 = .ok (.lconst 0, 1) := by decide +kernel
theorem dX8_leak_10 : decode cX8_leak 10 = .ok (.ldc2_w 312, 3) := by decide +kernel
theorem dX8_leak_13 : decode cX8_leak 13 = .ok (.invokestatic 131, 3) := by decide +kernel
theorem dX8_leak_16 : decode cX8_leak 16 = .ok (.ifCond .eq 7, 3) := by decide +kernel
theorem dX8_leak_19 : decode cX8_leak 19 = .ok (.iconst 1, 1) := by decide +kernel
theorem dX8_leak_20 : decode cX8_leak 20 = .ok (.goto 4, 3) := by decide +kernel
theorem dX8_leak_23 : decode cX8_leak 23 = .ok (.iconst 0, 1) := by decide +kernel
theorem dX8_leak_24 : decode cX8_leak 24 = .ok (.invokestatic 330, 3) := by decide +kernel
theorem dX8_leak_27 : decode cX8_leak 27 = .ok (.istore_n 2, 1) := by decide +kernel
theorem dX8_leak_28 : decode cX8_leak 28 = .ok (.aload_n 0, 1) := by decide +kernel
theorem dX8_leak_29 : decode cX8_leak 29 = .ok (.iload_n 2, 1) := by decide +kernel
theorem dX8_leak_30 : decode cX8_leak 30 = .ok (.ifCond .eq 7, 3) := by decide +kernel
theorem dX8_leak_33 : decode cX8_leak 33 = .ok (.iload_n 2, 1) := by decide +kernel
theorem dX8_leak_34 : decode cX8_leak 34 = .ok (.goto 15, 3) := by decide +kernel
theorem dX8_leak_37 : decode cX8_leak 37 = .ok (.aload_n 0, 1) := by decide +kernel
theorem dX8_leak_38 : decode cX8_leak 38 = .ok (.invokevirtual 394, 3) := by decide +kernel
theorem dX8_leak_41 : decode cX8_leak 41 = .ok (.ifCond .ne 7, 3) := by decide +kernel
theorem dX8_leak_44 : decode cX8_leak 44 = .ok (.iconst 5, 1) := by decide +kernel
theorem dX8_leak_45 : decode cX8_leak 45 = .ok (.goto 4, 3) := by decide +kernel
theorem dX8_leak_48 : decode cX8_leak 48 = .ok (.iconst 0, 1) := by decide +kernel
theorem dX8_leak_49 : decode cX8_leak 49 = .ok (.invokevirtual 245, 3) := by decide +kernel
theorem dX8_leak_52 : decode cX8_leak 52 = .ok (.ifCond .eq 7, 3) := by decide +kernel
theorem dX8_leak_55 : decode cX8_leak 55 = .ok (.ldc2_w 102, 3) := by decide +kernel
theorem dX8_leak_58 : decode cX8_leak 58 = .ok (.lreturn, 1) := by decide +kernel
theorem dX8_leak_59 : decode cX8_leak 59 = .ok (.iconst (-1), 1) := by decide +kernel
theorem dX8_leak_60 : decode cX8_leak 60 = .ok (.istore_n 3, 1) := by decide +kernel
theorem dX8_leak_61 : decode cX8_leak 61 = .ok (.iconst 0, 1) := by decide +kernel
theorem dX8_leak_62 : decode cX8_leak 62 = .ok (.istore 4, 2) := by decide +kernel
theorem dX8_leak_64 : decode cX8_leak 64 = .ok (.lconst 0, 1) := by decide +kernel
theorem dX8_leak_65 : decode cX8_leak 65 = .ok (.lstore 5, 2) := by decide +kernel
theorem dX8_leak_67 : decode cX8_leak 67 = .ok (.iconst 1, 1) := by decide +kernel
theorem dX8_leak_68 : decode cX8_leak 68 = .ok (.istore 7, 2) := by decide +kernel
theorem dX8_leak_70 : decode cX8_leak 70 = .ok (.iload 7, 2) := by decide +kernel
theorem dX8_leak_72 : decode cX8_leak 72 = .ok (.aload_n 0, 1) := by decide +kernel
theorem dX8_leak_73 : decode cX8_leak 73 = .ok (.getfield 229, 3) := by decide +kernel
theorem dX8_leak_76 : decode cX8_leak 76 = .ok (.if_icmp .ge 59, 3) := by decide +kernel
theorem dX8_leak_79 : decode cX8_leak 79 = .ok (.iconst 1, 1) := by decide +kernel
theorem dX8_leak_80 : decode cX8_leak 80 = .ok (.istore 8, 2) := by decide +kernel
theorem dX8_leak_82 : decode cX8_leak 82 = .ok (.iload 8, 2) := by decide +kernel
theorem dX8_leak_84 : decode cX8_leak 84 = .ok (.bipush 40, 2) := by decide +kernel
theorem dX8_leak_86 : decode cX8_leak 86 = .ok (.if_icmp .gt 43, 3) := by decide +kernel
theorem dX8_leak_89 : decode cX8_leak 89 = .ok (.aload_n 0, 1) := by decide +kernel
theorem dX8_leak_90 : decode cX8_leak 90 = .ok (.iload 7, 2) := by decide +kernel
theorem dX8_leak_92 : decode cX8_leak 92 = .ok (.iload 8, 2) := by decide +kernel
theorem dX8_leak_94 : decode cX8_leak 94 = .ok (.invokevirtual 476, 3) := by decide +kernel
theorem dX8_leak_97 : decode cX8_leak 97 = .ok (.lstore 9, 2) := by decide +kernel
theorem dX8_leak_99 : decode cX8_leak 99 = .ok (.iload_n 3, 1) := by decide +kernel
theorem dX8_leak_100 : decode cX8_leak 100 = .ok (.iconst (-1), 1) := by decide +kernel
theorem dX8_leak_101 : decode cX8_leak 101 = .ok (.if_icmp .eq 11, 3) := by decide +kernel
theorem dX8_leak_104 : decode cX8_leak 104 = .ok (.lload 9, 2) := by decide +kernel
theorem dX8_leak_106 : decode cX8_leak 106 = .ok (.lload 5, 2) := by decide +kernel
theorem dX8_leak_108 : decode cX8_leak 108 = .ok (.lcmp, 1) := by decide +kernel
theorem dX8_leak_109 : decode cX8_leak 109 = .ok (.ifCond .ge 14, 3) := by decide +kernel
theorem dX8_leak_112 : decode cX8_leak 112 = .ok (.iload 7, 2) := by decide +kernel
theorem dX8_leak_114 : decode cX8_leak 114 = .ok (.istore_n 3, 1) := by decide +kernel
theorem dX8_leak_115 : decode cX8_leak 115 = .ok (.iload 8, 2) := by decide +kernel
theorem dX8_leak_117 : decode cX8_leak 117 = .ok (.istore 4, 2) := by decide +kernel
theorem dX8_leak_119 : decode cX8_leak 119 = .ok (.lload 9, 2) := by decide +kernel
theorem dX8_leak_121 : decode cX8_leak 121 = .ok (.lstore 5, 2) := by decide +kernel
theorem dX8_leak_123 : decode cX8_leak 123 = .ok (.iinc 8 1, 3) := by decide +kernel
theorem dX8_leak_126 : decode cX8_leak 126 = .ok (.goto (-44), 3) := by decide +kernel
theorem dX8_leak_129 : decode cX8_leak 129 = .ok (.iinc 7 1, 3) := by decide +kernel
theorem dX8_leak_132 : decode cX8_leak 132 = .ok (.goto (-62), 3) := by decide +kernel
theorem dX8_leak_135 : decode cX8_leak 135 = .ok (.aload_n 0, 1) := by decide +kernel
theorem dX8_leak_136 : decode cX8_leak 136 = .ok (.invokevirtual 435, 3) := by decide +kernel
theorem dX8_leak_139 : decode cX8_leak 139 = .ok (.iload_n 1, 1) := by decide +kernel
theorem dX8_leak_140 : decode cX8_leak 140 = .ok (.ifCond .ne 8, 3) := by decide +kernel
theorem dX8_leak_143 : decode cX8_leak 143 = .ok (.iload_n 3, 1) := by decide +kernel
theorem dX8_leak_144 : decode cX8_leak 144 = .ok (.i2l, 1) := by decide +kernel
theorem dX8_leak_145 : decode cX8_leak 145 = .ok (.goto 16, 3) := by decide +kernel
theorem dX8_leak_148 : decode cX8_leak 148 = .ok (.iload_n 1, 1) := by decide +kernel
theorem dX8_leak_149 : decode cX8_leak 149 = .ok (.iconst 1, 1) := by decide +kernel
theorem dX8_leak_150 : decode cX8_leak 150 = .ok (.if_icmp .ne 9, 3) := by decide +kernel
theorem dX8_leak_153 : decode cX8_leak 153 = .ok (.iload 4, 2) := by decide +kernel
theorem dX8_leak_155 : decode cX8_leak 155 = .ok (.i2l, 1) := by decide +kernel
theorem dX8_leak_156 : decode cX8_leak 156 = .ok (.goto 5, 3) := by decide +kernel
theorem dX8_leak_159 : decode cX8_leak 159 = .ok (.lload 5, 2) := by decide +kernel
theorem dX8_leak_161 : decode cX8_leak 161 = .ok (.lreturn, 1) := by decide +kernel
theorem dX8_remembers_0 : decode cX8_remembers 0 = .ok (.aload_n 0, 1) := by decide +kernel
theorem dX8_remembers_1 : decode cX8_remembers 1 = .ok (.getfield 238, 3) := by decide +kernel
theorem dX8_remembers_4 : decode cX8_remembers 4 = .ok (.bipush 12, 2) := by decide +kernel
theorem dX8_remembers_6 : decode cX8_remembers 6 = .ok (.if_icmp .ne 111, 3) := by decide +kernel
theorem dX8_remembers_9 : decode cX8_remembers 9 = .ok (.aload_n 0, 1) := by decide +kernel
theorem dX8_remembers_10 : decode cX8_remembers 10 = .ok (.dup, 1) := by decide +kernel
theorem dX8_remembers_11 : decode cX8_remembers 11 = .ok (.getfield 238, 3) := by decide +kernel
theorem dX8_remembers_14 : decode cX8_remembers 14 = .ok (.iconst 1, 1) := by decide +kernel
theorem dX8_remembers_15 : decode cX8_remembers 15 = .ok (.isub, 1) := by decide +kernel
theorem dX8_remembers_16 : decode cX8_remembers 16 = .ok (.putfield 238, 3) := by decide +kernel
theorem dX8_remembers_19 : decode cX8_remembers 19 = .ok (.iconst 0, 1) := by decide +kernel
theorem dX8_remembers_20 : decode cX8_remembers 20 = .ok (.istore_n 1, 1) := by decide +kernel
theorem dX8_remembers_21 : decode cX8_remembers 21 = .ok (.iload_n 1, 1) := by decide +kernel
theorem dX8_remembers_22 : decode cX8_remembers 22 = .ok (.aload_n 0, 1) := by decide +kernel
theorem dX8_remembers_23 : decode cX8_remembers 23 = .ok (.getfield 238, 3) := by decide +kernel
theorem dX8_remembers_26 : decode cX8_remembers 26 = .ok (.if_icmp .ge 23, 3) := by decide +kernel
theorem dX8_remembers_29 : decode cX8_remembers 29 = .ok (.aload_n 0, 1) := by decide +kernel
theorem dX8_remembers_30 : decode cX8_remembers 30 = .ok (.getfield 93, 3) := by decide +kernel
theorem dX8_remembers_33 : decode cX8_remembers 33 = .ok (.iload_n 1, 1) := by decide +kernel
theorem dX8_remembers_34 : decode cX8_remembers 34 = .ok (.aload_n 0, 1) := by decide +kernel
theorem dX8_remembers_35 : decode cX8_remembers 35 = .ok (.getfield 93, 3) := by decide +kernel
theorem dX8_remembers_38 : decode cX8_remembers 38 = .ok (.iload_n 1, 1) := by decide +kernel
theorem dX8_remembers_39 : decode cX8_remembers 39 = .ok (.iconst 1, 1) := by decide +kernel
theorem dX8_remembers_40 : decode cX8_remembers 40 = .ok (.iadd, 1) := by decide +kernel
theorem dX8_remembers_41 : decode cX8_remembers 41 = .ok (.iaload, 1) := by decide +kernel
theorem dX8_remembers_42 : decode cX8_remembers 42 = .ok (.iastore, 1) := by decide +kernel
theorem dX8_remembers_43 : decode cX8_remembers 43 = .ok (.iinc 1 1, 3) := by decide +kernel
theorem dX8_remembers_46 : decode cX8_remembers 46 = .ok (.goto (-25), 3) := by decide +kernel
theorem dX8_remembers_49 : decode cX8_remembers 49 = .ok (.iconst 0, 1) := by decide +kernel
theorem dX8_remembers_50 : decode cX8_remembers 50 = .ok (.istore_n 1, 1) := by decide +kernel
theorem dX8_remembers_51 : decode cX8_remembers 51 = .ok (.iload_n 1, 1) := by decide +kernel
theorem dX8_remembers_52 : decode cX8_remembers 52 = .ok (.aload_n 0, 1) := by decide +kernel
theorem dX8_remembers_53 : decode cX8_remembers 53 = .ok (.getfield 238, 3) := by decide +kernel
theorem dX8_remembers_56 : decode cX8_remembers 56 = .ok (.bipush 9, 2) := by decide +kernel
theorem dX8_remembers_58 : decode cX8_remembers 58 = .ok (.imul, 1) := by decide +kernel
theorem dX8_remembers_59 : decode cX8_remembers 59 = .ok (.if_icmp .ge 24, 3) := by decide +kernel
theorem dX8_remembers_62 : decode cX8_remembers 62 = .ok (.aload_n 0, 1) := by decide +kernel
theorem dX8_remembers_63 : decode cX8_remembers 63 = .ok (.getfield 87, 3) := by decide +kernel
theorem dX8_remembers_66 : decode cX8_remembers 66 = .ok (.iload_n 1, 1) := by decide +kernel
theorem dX8_remembers_67 : decode cX8_remembers 67 = .ok (.aload_n 0, 1) := by decide +kernel
theorem dX8_remembers_68 : decode cX8_remembers 68 = .ok (.getfield 87, 3) := by decide +kernel
theorem dX8_remembers_71 : decode cX8_remembers 71 = .ok (.iload_n 1, 1) := by decide +kernel
theorem dX8_remembers_72 : decode cX8_remembers 72 = .ok (.bipush 9, 2) := by decide +kernel
theorem dX8_remembers_74 : decode cX8_remembers 74 = .ok (.iadd, 1) := by decide +kernel
theorem dX8_remembers_75 : decode cX8_remembers 75 = .ok (.iaload, 1) := by decide +kernel
theorem dX8_remembers_76 : decode cX8_remembers 76 = .ok (.iastore, 1) := by decide +kernel
theorem dX8_remembers_77 : decode cX8_remembers 77 = .ok (.iinc 1 1, 3) := by decide +kernel
theorem dX8_remembers_80 : decode cX8_remembers 80 = .ok (.goto (-29), 3) := by decide +kernel
theorem dX8_remembers_83 : decode cX8_remembers 83 = .ok (.iconst 0, 1) := by decide +kernel
theorem dX8_remembers_84 : decode cX8_remembers 84 = .ok (.istore_n 1, 1) := by decide +kernel
theorem dX8_remembers_85 : decode cX8_remembers 85 = .ok (.iload_n 1, 1) := by decide +kernel
theorem dX8_remembers_86 : decode cX8_remembers 86 = .ok (.aload_n 0, 1) := by decide +kernel
theorem dX8_remembers_87 : decode cX8_remembers 87 = .ok (.getfield 238, 3) := by decide +kernel
theorem dX8_remembers_90 : decode cX8_remembers 90 = .ok (.bipush 14, 2) := by decide +kernel
theorem dX8_remembers_92 : decode cX8_remembers 92 = .ok (.imul, 1) := by decide +kernel
theorem dX8_remembers_93 : decode cX8_remembers 93 = .ok (.if_icmp .ge 24, 3) := by decide +kernel
theorem dX8_remembers_96 : decode cX8_remembers 96 = .ok (.aload_n 0, 1) := by decide +kernel
theorem dX8_remembers_97 : decode cX8_remembers 97 = .ok (.getfield 90, 3) := by decide +kernel
theorem dX8_remembers_100 : decode cX8_remembers 100 = .ok (.iload_n 1, 1) := by decide +kernel
theorem dX8_remembers_101 : decode cX8_remembers 101 = .ok (.aload_n 0, 1) := by decide +kernel
theorem dX8_remembers_102 : decode cX8_remembers 102 = .ok (.getfield 90, 3) := by decide +kernel
theorem dX8_remembers_105 : decode cX8_remembers 105 = .ok (.iload_n 1, 1) := by decide +kernel
theorem dX8_remembers_106 : decode cX8_remembers 106 = .ok (.bipush 14, 2) := by decide +kernel
theorem dX8_remembers_108 : decode cX8_remembers 108 = .ok (.iadd, 1) := by decide +kernel
theorem dX8_remembers_109 : decode cX8_remembers 109 = .ok (.iaload, 1) := by decide +kernel
theorem dX8_remembers_110 : decode cX8_remembers 110 = .ok (.iastore, 1) := by decide +kernel
theorem dX8_remembers_111 : decode cX8_remembers 111 = .ok (.iinc 1 1, 3) := by decide +kernel
theorem dX8_remembers_114 : decode cX8_remembers 114 = .ok (.goto (-29), 3) := by decide +kernel
theorem dX8_remembers_117 : decode cX8_remembers 117 = .ok (.aload_n 0, 1) := by decide +kernel
theorem dX8_remembers_118 : decode cX8_remembers 118 = .ok (.getfield 93, 3) := by decide +kernel
theorem dX8_remembers_121 : decode cX8_remembers 121 = .ok (.aload_n 0, 1) := by decide +kernel
theorem dX8_remembers_122 : decode cX8_remembers 122 = .ok (.getfield 238, 3) := by decide +kernel
theorem dX8_remembers_125 : decode cX8_remembers 125 = .ok (.aload_n 0, 1) := by decide +kernel
theorem dX8_remembers_126 : decode cX8_remembers 126 = .ok (.getfield 235, 3) := by decide +kernel
theorem dX8_remembers_129 : decode cX8_remembers 129 = .ok (.iastore, 1) := by decide +kernel
theorem dX8_remembers_130 : decode cX8_remembers 130 = .ok (.iconst 0, 1) := by decide +kernel
theorem dX8_remembers_131 : decode cX8_remembers 131 = .ok (.istore_n 1, 1) := by decide +kernel
theorem dX8_remembers_132 : decode cX8_remembers 132 = .ok (.iload_n 1, 1) := by decide +kernel
theorem dX8_remembers_133 : decode cX8_remembers 133 = .ok (.bipush 9, 2) := by decide +kernel
theorem dX8_remembers_135 : decode cX8_remembers 135 = .ok (.if_icmp .ge 29, 3) := by decide +kernel
theorem dX8_remembers_138 : decode cX8_remembers 138 = .ok (.aload_n 0, 1) := by decide +kernel
theorem dX8_remembers_139 : decode cX8_remembers 139 = .ok (.getfield 87, 3) := by decide +kernel
theorem dX8_remembers_142 : decode cX8_remembers 142 = .ok (.bipush 9, 2) := by decide +kernel
theorem dX8_remembers_144 : decode cX8_remembers 144 = .ok (.aload_n 0, 1) := by decide +kernel
theorem dX8_remembers_145 : decode cX8_remembers 145 = .ok (.getfield 238, 3) := by decide +kernel
theorem dX8_remembers_148 : decode cX8_remembers 148 = .ok (.imul, 1) := by decide +kernel
theorem dX8_remembers_149 : decode cX8_remembers 149 = .ok (.iload_n 1, 1) := by decide +kernel
theorem dX8_remembers_150 : decode cX8_remembers 150 = .ok (.iadd, 1) := by decide +kernel
theorem dX8_remembers_151 : decode cX8_remembers 151 = .ok (.aload_n 0, 1) := by decide +kernel
theorem dX8_remembers_152 : decode cX8_remembers 152 = .ok (.getfield 19, 3) := by decide +kernel
theorem dX8_remembers_155 : decode cX8_remembers 155 = .ok (.iload_n 1, 1) := by decide +kernel
theorem dX8_remembers_156 : decode cX8_remembers 156 = .ok (.iaload, 1) := by decide +kernel
theorem dX8_remembers_157 : decode cX8_remembers 157 = .ok (.iastore, 1) := by decide +kernel
theorem dX8_remembers_158 : decode cX8_remembers 158 = .ok (.iinc 1 1, 3) := by decide +kernel
theorem dX8_remembers_161 : decode cX8_remembers 161 = .ok (.goto (-29), 3) := by decide +kernel
theorem dX8_remembers_164 : decode cX8_remembers 164 = .ok (.iconst 0, 1) := by decide +kernel
theorem dX8_remembers_165 : decode cX8_remembers 165 = .ok (.istore_n 1, 1) := by decide +kernel
theorem dX8_remembers_166 : decode cX8_remembers 166 = .ok (.iload_n 1, 1) := by decide +kernel
theorem dX8_remembers_167 : decode cX8_remembers 167 = .ok (.bipush 14, 2) := by decide +kernel
theorem dX8_remembers_169 : decode cX8_remembers 169 = .ok (.if_icmp .ge 29, 3) := by decide +kernel
theorem dX8_remembers_172 : decode cX8_remembers 172 = .ok (.aload_n 0, 1) := by decide +kernel
theorem dX8_remembers_173 : decode cX8_remembers 173 = .ok (.getfield 90, 3) := by decide +kernel
theorem dX8_remembers_176 : decode cX8_remembers 176 = .ok (.bipush 14, 2) := by decide +kernel
theorem dX8_remembers_178 : decode cX8_remembers 178 = .ok (.aload_n 0, 1) := by decide +kernel
theorem dX8_remembers_179 : decode cX8_remembers 179 = .ok (.getfield 238, 3) := by decide +kernel
theorem dX8_remembers_182 : decode cX8_remembers 182 = .ok (.imul, 1) := by decide +kernel
theorem dX8_remembers_183 : decode cX8_remembers 183 = .ok (.iload_n 1, 1) := by decide +kernel
theorem dX8_remembers_184 : decode cX8_remembers 184 = .ok (.iadd, 1) := by decide +kernel
theorem dX8_remembers_185 : decode cX8_remembers 185 = .ok (.aload_n 0, 1) := by decide +kernel
theorem dX8_remembers_186 : decode cX8_remembers 186 = .ok (.getfield 37, 3) := by decide +kernel
theorem dX8_remembers_189 : decode cX8_remembers 189 = .ok (.iload_n 1, 1) := by decide +kernel
theorem dX8_remembers_190 : decode cX8_remembers 190 = .ok (.iaload, 1) := by decide +kernel
theorem dX8_remembers_191 : decode cX8_remembers 191 = .ok (.iastore, 1) := by decide +kernel
theorem dX8_remembers_192 : decode cX8_remembers 192 = .ok (.iinc 1 1, 3) := by decide +kernel
theorem dX8_remembers_195 : decode cX8_remembers 195 = .ok (.goto (-29), 3) := by decide +kernel
theorem dX8_remembers_198 : decode cX8_remembers 198 = .ok (.aload_n 0, 1) := by decide +kernel
theorem dX8_remembers_199 : decode cX8_remembers 199 = .ok (.dup, 1) := by decide +kernel
theorem dX8_remembers_200 : decode cX8_remembers 200 = .ok (.getfield 238, 3) := by decide +kernel
theorem dX8_remembers_203 : decode cX8_remembers 203 = .ok (.iconst 1, 1) := by decide +kernel
theorem dX8_remembers_204 : decode cX8_remembers 204 = .ok (.iadd, 1) := by decide +kernel
theorem dX8_remembers_205 : decode cX8_remembers 205 = .ok (.putfield 238, 3) := by decide +kernel
theorem dX8_remembers_208 : decode cX8_remembers 208 = .ok (.return_, 1) := by decide +kernel
theorem dX8_valve_0 : decode cX8_valve 0 = .ok (.aload_n 0, 1) := by decide +kernel
theorem dX8_valve_1 : decode cX8_valve 1 = .ok (.iload_n 1, 1) := by decide +kernel
theorem dX8_valve_2 : decode cX8_valve 2 = .ok (.invokevirtual 317, 3) := by decide +kernel
theorem dX8_valve_5 : decode cX8_valve 5 = .ok (.invokestatic 330, 3) := by decide +kernel
theorem dX8_valve_8 : decode cX8_valve 8 = .ok (.istore_n 3, 1) := by decide +kernel
theorem dX8_valve_9 : decode cX8_valve 9 = .ok (.aload_n 0, 1) := by decide +kernel
theorem dX8_valve_10 : decode cX8_valve 10 = .ok (.iload_n 3, 1) := by decide +kernel
theorem dX8_valve_11 : decode cX8_valve 11 = .ok (.ifCond .eq 7, 3) := by decide +kernel
theorem dX8_valve_14 : decode cX8_valve 14 = .ok (.iload_n 3, 1) := by decide +kernel
theorem dX8_valve_15 : decode cX8_valve 15 = .ok (.goto 28, 3) := by decide +kernel
theorem dX8_valve_18 : decode cX8_valve 18 = .ok (.aload_n 0, 1) := by decide +kernel
theorem dX8_valve_19 : decode cX8_valve 19 = .ok (.getfield 235, 3) := by decide +kernel
theorem dX8_valve_22 : decode cX8_valve 22 = .ok (.iload_n 1, 1) := by decide +kernel
theorem dX8_valve_23 : decode cX8_valve 23 = .ok (.ishr, 1) := by decide +kernel
theorem dX8_valve_24 : decode cX8_valve 24 = .ok (.iconst 1, 1) := by decide +kernel
theorem dX8_valve_25 : decode cX8_valve 25 = .ok (.iand, 1) := by decide +kernel
theorem dX8_valve_26 : decode cX8_valve 26 = .ok (.iload_n 2, 1) := by decide +kernel
theorem dX8_valve_27 : decode cX8_valve 27 = .ok (.ifCond .eq 7, 3) := by decide +kernel
theorem dX8_valve_30 : decode cX8_valve 30 = .ok (.iconst 1, 1) := by decide +kernel
theorem dX8_valve_31 : decode cX8_valve 31 = .ok (.goto 4, 3) := by decide +kernel
theorem dX8_valve_34 : decode cX8_valve 34 = .ok (.iconst 0, 1) := by decide +kernel
theorem dX8_valve_35 : decode cX8_valve 35 = .ok (.if_icmp .ne 7, 3) := by decide +kernel
theorem dX8_valve_38 : decode cX8_valve 38 = .ok (.iconst 5, 1) := by decide +kernel
theorem dX8_valve_39 : decode cX8_valve 39 = .ok (.goto 4, 3) := by decide +kernel
theorem dX8_valve_42 : decode cX8_valve 42 = .ok (.iconst 0, 1) := by decide +kernel
theorem dX8_valve_43 : decode cX8_valve 43 = .ok (.invokevirtual 245, 3) := by decide +kernel
theorem dX8_valve_46 : decode cX8_valve 46 = .ok (.ifCond .eq 5, 3) := by decide +kernel
theorem dX8_valve_49 : decode cX8_valve 49 = .ok (.iconst (-1), 1) := by decide +kernel
theorem dX8_valve_50 : decode cX8_valve 50 = .ok (.ireturn, 1) := by decide +kernel
theorem dX8_valve_51 : decode cX8_valve 51 = .ok (.aload_n 0, 1) := by decide +kernel
theorem dX8_valve_52 : decode cX8_valve 52 = .ok (.invokevirtual 480, 3) := by decide +kernel
theorem dX8_valve_55 : decode cX8_valve 55 = .ok (.aload_n 0, 1) := by decide +kernel
theorem dX8_valve_56 : decode cX8_valve 56 = .ok (.dup, 1) := by decide +kernel
theorem dX8_valve_57 : decode cX8_valve 57 = .ok (.getfield 235, 3) := by decide +kernel
theorem dX8_valve_60 : decode cX8_valve 60 = .ok (.iconst 1, 1) := by decide +kernel
theorem dX8_valve_61 : decode cX8_valve 61 = .ok (.iload_n 1, 1) := by decide +kernel
theorem dX8_valve_62 : decode cX8_valve 62 = .ok (.ishl, 1) := by decide +kernel
theorem dX8_valve_63 : decode cX8_valve 63 = .ok (.ixor, 1) := by decide +kernel
theorem dX8_valve_64 : decode cX8_valve 64 = .ok (.putfield 235, 3) := by decide +kernel
theorem dX8_valve_67 : decode cX8_valve 67 = .ok (.aload_n 0, 1) := by decide +kernel
theorem dX8_valve_68 : decode cX8_valve 68 = .ok (.invokevirtual 260, 3) := by decide +kernel
theorem dX8_valve_71 : decode cX8_valve 71 = .ok (.aload_n 0, 1) := by decide +kernel
theorem dX8_valve_72 : decode cX8_valve 72 = .ok (.invokevirtual 391, 3) := by decide +kernel
theorem dX8_valve_75 : decode cX8_valve 75 = .ok (.invokestatic 483, 3) := by decide +kernel
theorem dX8_valve_78 : decode cX8_valve 78 = .ok (.ireturn, 1) := by decide +kernel
theorem dX8_becomes_0 : decode cX8_becomes 0 = .ok (.aload_n 0, 1) := by decide +kernel
theorem dX8_becomes_1 : decode cX8_becomes 1 = .ok (.getfield 19, 3) := by decide +kernel
theorem dX8_becomes_4 : decode cX8_becomes 4 = .ok (.iload_n 1, 1) := by decide +kernel
theorem dX8_becomes_5 : decode cX8_becomes 5 = .ok (.iaload, 1) := by decide +kernel
theorem dX8_becomes_6 : decode cX8_becomes 6 = .ok (.istore_n 3, 1) := by decide +kernel
theorem dX8_becomes_7 : decode cX8_becomes 7 = .ok (.aload_n 0, 1) := by decide +kernel
theorem dX8_becomes_8 : decode cX8_becomes 8 = .ok (.invokevirtual 480, 3) := by decide +kernel
theorem dX8_becomes_11 : decode cX8_becomes 11 = .ok (.aload_n 0, 1) := by decide +kernel
theorem dX8_becomes_12 : decode cX8_becomes 12 = .ok (.getfield 19, 3) := by decide +kernel
theorem dX8_becomes_15 : decode cX8_becomes 15 = .ok (.iload_n 1, 1) := by decide +kernel
theorem dX8_becomes_16 : decode cX8_becomes 16 = .ok (.iload_n 2, 1) := by decide +kernel
theorem dX8_becomes_17 : decode cX8_becomes 17 = .ok (.iastore, 1) := by decide +kernel
theorem dX8_becomes_18 : decode cX8_becomes 18 = .ok (.aload_n 0, 1) := by decide +kernel
theorem dX8_becomes_19 : decode cX8_becomes 19 = .ok (.invokevirtual 260, 3) := by decide +kernel
theorem dX8_becomes_22 : decode cX8_becomes 22 = .ok (.iload_n 3, 1) := by decide +kernel
theorem dX8_becomes_23 : decode cX8_becomes 23 = .ok (.ireturn, 1) := by decide +kernel
theorem dX8_draw_0 : decode cX8_draw 0 = .ok (.aload_n 0, 1) := by decide +kernel
theorem dX8_draw_1 : decode cX8_draw 1 = .ok (.aload_n 0, 1) := by decide +kernel
theorem dX8_draw_2 : decode cX8_draw 2 = .ok (.iload_n 1, 1) := by decide +kernel
theorem dX8_draw_3 : decode cX8_draw 3 = .ok (.invokevirtual 421, 3) := by decide +kernel
theorem dX8_draw_6 : decode cX8_draw 6 = .ok (.iload_n 2, 1) := by decide +kernel
theorem dX8_draw_7 : decode cX8_draw 7 = .ok (.i2l, 1) := by decide +kernel
theorem dX8_draw_8 : decode cX8_draw 8 = .ok (.lconst 0, 1) := by decide +kernel
theorem dX8_draw_9 : decode cX8_draw 9 = .ok (.ldc2_w 416, 3) := by decide +kernel
theorem dX8_draw_12 : decode cX8_draw 12 = .ok (.invokestatic 131, 3) := by decide +kernel
theorem dX8_draw_15 : decode cX8_draw 15 = .ok (.invokestatic 241, 3) := by decide +kernel
theorem dX8_draw_18 : decode cX8_draw 18 = .ok (.invokevirtual 245, 3) := by decide +kernel
theorem dX8_draw_21 : decode cX8_draw 21 = .ok (.ifCond .eq 7, 3) := by decide +kernel
theorem dX8_draw_24 : decode cX8_draw 24 = .ok (.iconst (-1), 1) := by decide +kernel
theorem dX8_draw_25 : decode cX8_draw 25 = .ok (.goto 9, 3) := by decide +kernel
theorem dX8_draw_28 : decode cX8_draw 28 = .ok (.aload_n 0, 1) := by decide +kernel
theorem dX8_draw_29 : decode cX8_draw 29 = .ok (.iload_n 1, 1) := by decide +kernel
theorem dX8_draw_30 : decode cX8_draw 30 = .ok (.iload_n 2, 1) := by decide +kernel
theorem dX8_draw_31 : decode cX8_draw 31 = .ok (.invokevirtual 486, 3) := by decide +kernel
theorem dX8_draw_34 : decode cX8_draw 34 = .ok (.ireturn, 1) := by decide +kernel
theorem dX8_well_0 : decode cX8_well 0 = .ok (.aload_n 0, 1) := by decide +kernel
theorem dX8_well_1 : decode cX8_well 1 = .ok (.aload_n 0, 1) := by decide +kernel
theorem dX8_well_2 : decode cX8_well 2 = .ok (.getfield 229, 3) := by decide +kernel
theorem dX8_well_5 : decode cX8_well 5 = .ok (.ifCond .le 7, 3) := by decide +kernel
theorem dX8_well_8 : decode cX8_well 8 = .ok (.iconst 1, 1) := by decide +kernel
theorem dX8_well_9 : decode cX8_well 9 = .ok (.goto 4, 3) := by decide +kernel
theorem dX8_well_12 : decode cX8_well 12 = .ok (.iconst 0, 1) := by decide +kernel
theorem dX8_well_13 : decode cX8_well 13 = .ok (.iload_n 1, 1) := by decide +kernel
theorem dX8_well_14 : decode cX8_well 14 = .ok (.i2l, 1) := by decide +kernel
theorem dX8_well_15 : decode cX8_well 15 = .ok (.lconst 0, 1) := by decide +kernel
theorem dX8_well_16 : decode cX8_well 16 = .ok (.ldc2_w 489, 3) := by decide +kernel
theorem dX8_well_19 : decode cX8_well 19 = .ok (.invokestatic 131, 3) := by decide +kernel
theorem dX8_well_22 : decode cX8_well 22 = .ok (.invokestatic 241, 3) := by decide +kernel
theorem dX8_well_25 : decode cX8_well 25 = .ok (.invokevirtual 245, 3) := by decide +kernel
theorem dX8_well_28 : decode cX8_well 28 = .ok (.ifCond .eq 7, 3) := by decide +kernel
theorem dX8_well_31 : decode cX8_well 31 = .ok (.iconst (-1), 1) := by decide +kernel
theorem dX8_well_32 : decode cX8_well 32 = .ok (.goto 9, 3) := by decide +kernel
theorem dX8_well_35 : decode cX8_well 35 = .ok (.aload_n 0, 1) := by decide +kernel
theorem dX8_well_36 : decode cX8_well 36 = .ok (.iconst 0, 1) := by decide +kernel
theorem dX8_well_37 : decode cX8_well 37 = .ok (.iload_n 1, 1) := by decide +kernel
theorem dX8_well_38 : decode cX8_well 38 = .ok (.invokevirtual 486, 3) := by decide +kernel
theorem dX8_well_41 : decode cX8_well 41 = .ok (.ireturn, 1) := by decide +kernel
theorem dX8_resist_0 : decode cX8_resist 0 = .ok (.aload_n 0, 1) := by decide +kernel
theorem dX8_resist_1 : decode cX8_resist 1 = .ok (.iload_n 1, 1) := by decide +kernel
theorem dX8_resist_2 : decode cX8_resist 2 = .ok (.invokevirtual 317, 3) := by decide +kernel
theorem dX8_resist_5 : decode cX8_resist 5 = .ok (.invokestatic 330, 3) := by decide +kernel
theorem dX8_resist_8 : decode cX8_resist 8 = .ok (.istore_n 3, 1) := by decide +kernel
theorem dX8_resist_9 : decode cX8_resist 9 = .ok (.aload_n 0, 1) := by decide +kernel
theorem dX8_resist_10 : decode cX8_resist 10 = .ok (.iload_n 3, 1) := by decide +kernel
theorem dX8_resist_11 : decode cX8_resist 11 = .ok (.ifCond .eq 7, 3) := by decide +kernel
theorem dX8_resist_14 : decode cX8_resist 14 = .ok (.iload_n 3, 1) := by decide +kernel
theorem dX8_resist_15 : decode cX8_resist 15 = .ok (.goto 34, 3) := by decide +kernel
theorem dX8_resist_18 : decode cX8_resist 18 = .ok (.aload_n 0, 1) := by decide +kernel
theorem dX8_resist_19 : decode cX8_resist 19 = .ok (.getfield 34, 3) := by decide +kernel
theorem dX8_resist_22 : decode cX8_resist 22 = .ok (.iload_n 1, 1) := by decide +kernel
theorem dX8_resist_23 : decode cX8_resist 23 = .ok (.iaload, 1) := by decide +kernel
theorem dX8_resist_24 : decode cX8_resist 24 = .ok (.iconst 2, 1) := by decide +kernel
theorem dX8_resist_25 : decode cX8_resist 25 = .ok (.if_icmp .ne 7, 3) := by decide +kernel
theorem dX8_resist_28 : decode cX8_resist 28 = .ok (.iconst 5, 1) := by decide +kernel
theorem dX8_resist_29 : decode cX8_resist 29 = .ok (.goto 20, 3) := by decide +kernel
theorem dX8_resist_32 : decode cX8_resist 32 = .ok (.iload_n 2, 1) := by decide +kernel
theorem dX8_resist_33 : decode cX8_resist 33 = .ok (.i2l, 1) := by decide +kernel
theorem dX8_resist_34 : decode cX8_resist 34 = .ok (.lconst 1, 1) := by decide +kernel
theorem dX8_resist_35 : decode cX8_resist 35 = .ok (.ldc2_w 491, 3) := by decide +kernel
theorem dX8_resist_38 : decode cX8_resist 38 = .ok (.invokestatic 131, 3) := by decide +kernel
theorem dX8_resist_41 : decode cX8_resist 41 = .ok (.ifCond .eq 7, 3) := by decide +kernel
theorem dX8_resist_44 : decode cX8_resist 44 = .ok (.iconst 0, 1) := by decide +kernel
theorem dX8_resist_45 : decode cX8_resist 45 = .ok (.goto 4, 3) := by decide +kernel
theorem dX8_resist_48 : decode cX8_resist 48 = .ok (.iconst 2, 1) := by decide +kernel
theorem dX8_resist_49 : decode cX8_resist 49 = .ok (.invokevirtual 245, 3) := by decide +kernel
theorem dX8_resist_52 : decode cX8_resist 52 = .ok (.ifCond .eq 5, 3) := by decide +kernel
theorem dX8_resist_55 : decode cX8_resist 55 = .ok (.iconst (-1), 1) := by decide +kernel
theorem dX8_resist_56 : decode cX8_resist 56 = .ok (.ireturn, 1) := by decide +kernel
theorem dX8_resist_57 : decode cX8_resist 57 = .ok (.aload_n 0, 1) := by decide +kernel
theorem dX8_resist_58 : decode cX8_resist 58 = .ok (.getfield 37, 3) := by decide +kernel
theorem dX8_resist_61 : decode cX8_resist 61 = .ok (.iload_n 1, 1) := by decide +kernel
theorem dX8_resist_62 : decode cX8_resist 62 = .ok (.iaload, 1) := by decide +kernel
theorem dX8_resist_63 : decode cX8_resist 63 = .ok (.istore 4, 2) := by decide +kernel
theorem dX8_resist_65 : decode cX8_resist 65 = .ok (.aload_n 0, 1) := by decide +kernel
theorem dX8_resist_66 : decode cX8_resist 66 = .ok (.invokevirtual 480, 3) := by decide +kernel
theorem dX8_resist_69 : decode cX8_resist 69 = .ok (.aload_n 0, 1) := by decide +kernel
theorem dX8_resist_70 : decode cX8_resist 70 = .ok (.getfield 37, 3) := by decide +kernel
theorem dX8_resist_73 : decode cX8_resist 73 = .ok (.iload_n 1, 1) := by decide +kernel
theorem dX8_resist_74 : decode cX8_resist 74 = .ok (.iload_n 2, 1) := by decide +kernel
theorem dX8_resist_75 : decode cX8_resist 75 = .ok (.iastore, 1) := by decide +kernel
theorem dX8_resist_76 : decode cX8_resist 76 = .ok (.aload_n 0, 1) := by decide +kernel
theorem dX8_resist_77 : decode cX8_resist 77 = .ok (.invokevirtual 260, 3) := by decide +kernel
theorem dX8_resist_80 : decode cX8_resist 80 = .ok (.iload 4, 2) := by decide +kernel
theorem dX8_resist_82 : decode cX8_resist 82 = .ok (.ireturn, 1) := by decide +kernel
theorem dX8_undo_0 : decode cX8_undo 0 = .ok (.aload_n 0, 1) := by decide +kernel
theorem dX8_undo_1 : decode cX8_undo 1 = .ok (.aload_n 0, 1) := by decide +kernel
theorem dX8_undo_2 : decode cX8_undo 2 = .ok (.getfield 229, 3) := by decide +kernel
theorem dX8_undo_5 : decode cX8_undo 5 = .ok (.ifCond .ne 7, 3) := by decide +kernel
theorem dX8_undo_8 : decode cX8_undo 8 = .ok (.iconst 1, 1) := by decide +kernel
theorem dX8_undo_9 : decode cX8_undo 9 = .ok (.goto 15, 3) := by decide +kernel
theorem dX8_undo_12 : decode cX8_undo 12 = .ok (.aload_n 0, 1) := by decide +kernel
theorem dX8_undo_13 : decode cX8_undo 13 = .ok (.getfield 238, 3) := by decide +kernel
theorem dX8_undo_16 : decode cX8_undo 16 = .ok (.ifCond .ne 7, 3) := by decide +kernel
theorem dX8_undo_19 : decode cX8_undo 19 = .ok (.iconst 5, 1) := by decide +kernel
theorem dX8_undo_20 : decode cX8_undo 20 = .ok (.goto 4, 3) := by decide +kernel
theorem dX8_undo_23 : decode cX8_undo 23 = .ok (.iconst 0, 1) := by decide +kernel
theorem dX8_undo_24 : decode cX8_undo 24 = .ok (.invokevirtual 245, 3) := by decide +kernel
theorem dX8_undo_27 : decode cX8_undo 27 = .ok (.ifCond .eq 5, 3) := by decide +kernel
theorem dX8_undo_30 : decode cX8_undo 30 = .ok (.iconst (-1), 1) := by decide +kernel
theorem dX8_undo_31 : decode cX8_undo 31 = .ok (.ireturn, 1) := by decide +kernel
theorem dX8_undo_32 : decode cX8_undo 32 = .ok (.aload_n 0, 1) := by decide +kernel
theorem dX8_undo_33 : decode cX8_undo 33 = .ok (.dup, 1) := by decide +kernel
theorem dX8_undo_34 : decode cX8_undo 34 = .ok (.getfield 238, 3) := by decide +kernel
theorem dX8_undo_37 : decode cX8_undo 37 = .ok (.iconst 1, 1) := by decide +kernel
theorem dX8_undo_38 : decode cX8_undo 38 = .ok (.isub, 1) := by decide +kernel
theorem dX8_undo_39 : decode cX8_undo 39 = .ok (.putfield 238, 3) := by decide +kernel
theorem dX8_undo_42 : decode cX8_undo 42 = .ok (.aload_n 0, 1) := by decide +kernel
theorem dX8_undo_43 : decode cX8_undo 43 = .ok (.aload_n 0, 1) := by decide +kernel
theorem dX8_undo_44 : decode cX8_undo 44 = .ok (.getfield 93, 3) := by decide +kernel
theorem dX8_undo_47 : decode cX8_undo 47 = .ok (.aload_n 0, 1) := by decide +kernel
theorem dX8_undo_48 : decode cX8_undo 48 = .ok (.getfield 238, 3) := by decide +kernel
theorem dX8_undo_51 : decode cX8_undo 51 = .ok (.iaload, 1) := by decide +kernel
theorem dX8_undo_52 : decode cX8_undo 52 = .ok (.putfield 235, 3) := by decide +kernel
theorem dX8_undo_55 : decode cX8_undo 55 = .ok (.iconst 0, 1) := by decide +kernel
theorem dX8_undo_56 : decode cX8_undo 56 = .ok (.istore_n 1, 1) := by decide +kernel
theorem dX8_undo_57 : decode cX8_undo 57 = .ok (.iload_n 1, 1) := by decide +kernel
theorem dX8_undo_58 : decode cX8_undo 58 = .ok (.bipush 9, 2) := by decide +kernel
theorem dX8_undo_60 : decode cX8_undo 60 = .ok (.if_icmp .ge 29, 3) := by decide +kernel
theorem dX8_undo_63 : decode cX8_undo 63 = .ok (.aload_n 0, 1) := by decide +kernel
theorem dX8_undo_64 : decode cX8_undo 64 = .ok (.getfield 19, 3) := by decide +kernel
theorem dX8_undo_67 : decode cX8_undo 67 = .ok (.iload_n 1, 1) := by decide +kernel
theorem dX8_undo_68 : decode cX8_undo 68 = .ok (.aload_n 0, 1) := by decide +kernel
theorem dX8_undo_69 : decode cX8_undo 69 = .ok (.getfield 87, 3) := by decide +kernel
theorem dX8_undo_72 : decode cX8_undo 72 = .ok (.bipush 9, 2) := by decide +kernel
theorem dX8_undo_74 : decode cX8_undo 74 = .ok (.aload_n 0, 1) := by decide +kernel
theorem dX8_undo_75 : decode cX8_undo 75 = .ok (.getfield 238, 3) := by decide +kernel
theorem dX8_undo_78 : decode cX8_undo 78 = .ok (.imul, 1) := by decide +kernel
theorem dX8_undo_79 : decode cX8_undo 79 = .ok (.iload_n 1, 1) := by decide +kernel
theorem dX8_undo_80 : decode cX8_undo 80 = .ok (.iadd, 1) := by decide +kernel
theorem dX8_undo_81 : decode cX8_undo 81 = .ok (.iaload, 1) := by decide +kernel
theorem dX8_undo_82 : decode cX8_undo 82 = .ok (.iastore, 1) := by decide +kernel
theorem dX8_undo_83 : decode cX8_undo 83 = .ok (.iinc 1 1, 3) := by decide +kernel
theorem dX8_undo_86 : decode cX8_undo 86 = .ok (.goto (-29), 3) := by decide +kernel
theorem dX8_undo_89 : decode cX8_undo 89 = .ok (.iconst 0, 1) := by decide +kernel
theorem dX8_undo_90 : decode cX8_undo 90 = .ok (.istore_n 1, 1) := by decide +kernel
theorem dX8_undo_91 : decode cX8_undo 91 = .ok (.iload_n 1, 1) := by decide +kernel
theorem dX8_undo_92 : decode cX8_undo 92 = .ok (.bipush 14, 2) := by decide +kernel
theorem dX8_undo_94 : decode cX8_undo 94 = .ok (.if_icmp .ge 29, 3) := by decide +kernel
theorem dX8_undo_97 : decode cX8_undo 97 = .ok (.aload_n 0, 1) := by decide +kernel
theorem dX8_undo_98 : decode cX8_undo 98 = .ok (.getfield 37, 3) := by decide +kernel
theorem dX8_undo_101 : decode cX8_undo 101 = .ok (.iload_n 1, 1) := by decide +kernel
theorem dX8_undo_102 : decode cX8_undo 102 = .ok (.aload_n 0, 1) := by decide +kernel
theorem dX8_undo_103 : decode cX8_undo 103 = .ok (.getfield 90, 3) := by decide +kernel
theorem dX8_undo_106 : decode cX8_undo 106 = .ok (.bipush 14, 2) := by decide +kernel
theorem dX8_undo_108 : decode cX8_undo 108 = .ok (.aload_n 0, 1) := by decide +kernel
theorem dX8_undo_109 : decode cX8_undo 109 = .ok (.getfield 238, 3) := by decide +kernel
theorem dX8_undo_112 : decode cX8_undo 112 = .ok (.imul, 1) := by decide +kernel
theorem dX8_undo_113 : decode cX8_undo 113 = .ok (.iload_n 1, 1) := by decide +kernel
theorem dX8_undo_114 : decode cX8_undo 114 = .ok (.iadd, 1) := by decide +kernel
theorem dX8_undo_115 : decode cX8_undo 115 = .ok (.iaload, 1) := by decide +kernel
theorem dX8_undo_116 : decode cX8_undo 116 = .ok (.iastore, 1) := by decide +kernel
theorem dX8_undo_117 : decode cX8_undo 117 = .ok (.iinc 1 1, 3) := by decide +kernel
theorem dX8_undo_120 : decode cX8_undo 120 = .ok (.goto (-29), 3) := by decide +kernel
theorem dX8_undo_123 : decode cX8_undo 123 = .ok (.aload_n 0, 1) := by decide +kernel
theorem dX8_undo_124 : decode cX8_undo 124 = .ok (.invokevirtual 260, 3) := by decide +kernel
theorem dX8_undo_127 : decode cX8_undo 127 = .ok (.aload_n 0, 1) := by decide +kernel
theorem dX8_undo_128 : decode cX8_undo 128 = .ok (.getfield 238, 3) := by decide +kernel
theorem dX8_undo_131 : decode cX8_undo 131 = .ok (.ireturn, 1) := by decide +kernel
theorem dX8_named_0 : decode cX8_named 0 = .ok (.aload_n 0, 1) := by decide +kernel
theorem dX8_named_1 : decode cX8_named 1 = .ok (.iconst 0, 1) := by decide +kernel
theorem dX8_named_2 : decode cX8_named 2 = .ok (.putfield 96, 3) := by decide +kernel
theorem dX8_named_5 : decode cX8_named 5 = .ok (.iconst 0, 1) := by decide +kernel
theorem dX8_named_6 : decode cX8_named 6 = .ok (.istore_n 2, 1) := by decide +kernel
theorem dX8_named_7 : decode cX8_named 7 = .ok (.iload_n 1, 1) := by decide +kernel
theorem dX8_named_8 : decode cX8_named 8 = .ok (.i2l, 1) := by decide +kernel
theorem dX8_named_9 : decode cX8_named 9 = .ok (.lconst 0, 1) := by decide +kernel
theorem dX8_named_10 : decode cX8_named 10 = .ok (.aload_n 0, 1) := by decide +kernel
theorem dX8_named_11 : decode cX8_named 11 = .ok (.getfield 104, 3) := by decide +kernel
theorem dX8_named_14 : decode cX8_named 14 = .ok (.i2l, 1) := by decide +kernel
theorem dX8_named_15 : decode cX8_named 15 = .ok (.invokestatic 131, 3) := by decide +kernel
theorem dX8_named_18 : decode cX8_named 18 = .ok (.ifCond .eq 7, 3) := by decide +kernel
theorem dX8_named_21 : decode cX8_named 21 = .ok (.iload_n 1, 1) := by decide +kernel
theorem dX8_named_22 : decode cX8_named 22 = .ok (.goto 4, 3) := by decide +kernel
theorem dX8_named_25 : decode cX8_named 25 = .ok (.iconst 0, 1) := by decide +kernel
theorem dX8_named_26 : decode cX8_named 26 = .ok (.istore_n 3, 1) := by decide +kernel
theorem dX8_named_27 : decode cX8_named 27 = .ok (.iload_n 2, 1) := by decide +kernel
theorem dX8_named_28 : decode cX8_named 28 = .ok (.iload_n 3, 1) := by decide +kernel
theorem dX8_named_29 : decode cX8_named 29 = .ok (.if_icmp .ge 20, 3) := by decide +kernel
theorem dX8_named_32 : decode cX8_named 32 = .ok (.aload_n 0, 1) := by decide +kernel
theorem dX8_named_33 : decode cX8_named 33 = .ok (.getfield 15, 3) := by decide +kernel
theorem dX8_named_36 : decode cX8_named 36 = .ok (.iload_n 2, 1) := by decide +kernel
theorem dX8_named_37 : decode cX8_named 37 = .ok (.iaload, 1) := by decide +kernel
theorem dX8_named_38 : decode cX8_named 38 = .ok (.bipush 32, 2) := by decide +kernel
theorem dX8_named_40 : decode cX8_named 40 = .ok (.if_icmp .ne 9, 3) := by decide +kernel
theorem dX8_named_43 : decode cX8_named 43 = .ok (.iinc 2 1, 3) := by decide +kernel
theorem dX8_named_46 : decode cX8_named 46 = .ok (.goto (-19), 3) := by decide +kernel
theorem dX8_named_49 : decode cX8_named 49 = .ok (.iload_n 3, 1) := by decide +kernel
theorem dX8_named_50 : decode cX8_named 50 = .ok (.iload_n 2, 1) := by decide +kernel
theorem dX8_named_51 : decode cX8_named 51 = .ok (.if_icmp .le 22, 3) := by decide +kernel
theorem dX8_named_54 : decode cX8_named 54 = .ok (.aload_n 0, 1) := by decide +kernel
theorem dX8_named_55 : decode cX8_named 55 = .ok (.getfield 15, 3) := by decide +kernel
theorem dX8_named_58 : decode cX8_named 58 = .ok (.iload_n 3, 1) := by decide +kernel
theorem dX8_named_59 : decode cX8_named 59 = .ok (.iconst 1, 1) := by decide +kernel
theorem dX8_named_60 : decode cX8_named 60 = .ok (.isub, 1) := by decide +kernel
theorem dX8_named_61 : decode cX8_named 61 = .ok (.iaload, 1) := by decide +kernel
theorem dX8_named_62 : decode cX8_named 62 = .ok (.bipush 32, 2) := by decide +kernel
theorem dX8_named_64 : decode cX8_named 64 = .ok (.if_icmp .ne 9, 3) := by decide +kernel
theorem dX8_named_67 : decode cX8_named 67 = .ok (.iinc 3 (-1), 3) := by decide +kernel
theorem dX8_named_70 : decode cX8_named 70 = .ok (.goto (-21), 3) := by decide +kernel
theorem dX8_named_73 : decode cX8_named 73 = .ok (.iconst 0, 1) := by decide +kernel
theorem dX8_named_74 : decode cX8_named 74 = .ok (.istore 4, 2) := by decide +kernel
theorem dX8_named_76 : decode cX8_named 76 = .ok (.iload_n 3, 1) := by decide +kernel
theorem dX8_named_77 : decode cX8_named 77 = .ok (.iload_n 2, 1) := by decide +kernel
theorem dX8_named_78 : decode cX8_named 78 = .ok (.if_icmp .le 35, 3) := by decide +kernel
theorem dX8_named_81 : decode cX8_named 81 = .ok (.iload 4, 2) := by decide +kernel
theorem dX8_named_83 : decode cX8_named 83 = .ok (.aload_n 0, 1) := by decide +kernel
theorem dX8_named_84 : decode cX8_named 84 = .ok (.getfield 229, 3) := by decide +kernel
theorem dX8_named_87 : decode cX8_named 87 = .ok (.if_icmp .ge 26, 3) := by decide +kernel
theorem dX8_named_90 : decode cX8_named 90 = .ok (.aload_n 0, 1) := by decide +kernel
theorem dX8_named_91 : decode cX8_named 91 = .ok (.bipush 6, 2) := by decide +kernel
theorem dX8_named_93 : decode cX8_named 93 = .ok (.iload 4, 2) := by decide +kernel
theorem dX8_named_95 : decode cX8_named 95 = .ok (.imul, 1) := by decide +kernel
theorem dX8_named_96 : decode cX8_named 96 = .ok (.iload_n 2, 1) := by decide +kernel
theorem dX8_named_97 : decode cX8_named 97 = .ok (.iload_n 3, 1) := by decide +kernel
theorem dX8_named_98 : decode cX8_named 98 = .ok (.invokevirtual 177, 3) := by decide +kernel
theorem dX8_named_101 : decode cX8_named 101 = .ok (.ifCond .eq 6, 3) := by decide +kernel
theorem dX8_named_104 : decode cX8_named 104 = .ok (.iload 4, 2) := by decide +kernel
theorem dX8_named_106 : decode cX8_named 106 = .ok (.ireturn, 1) := by decide +kernel
theorem dX8_named_107 : decode cX8_named 107 = .ok (.iinc 4 1, 3) := by decide +kernel
theorem dX8_named_110 : decode cX8_named 110 = .ok (.goto (-34), 3) := by decide +kernel
theorem dX8_named_113 : decode cX8_named 113 = .ok (.aload_n 0, 1) := by decide +kernel
theorem dX8_named_114 : decode cX8_named 114 = .ok (.iconst 1, 1) := by decide +kernel
theorem dX8_named_115 : decode cX8_named 115 = .ok (.putfield 96, 3) := by decide +kernel
theorem dX8_named_118 : decode cX8_named 118 = .ok (.iconst 0, 1) := by decide +kernel
theorem dX8_named_119 : decode cX8_named 119 = .ok (.ireturn, 1) := by decide +kernel
theorem dX8_size_0 : decode cX8_size 0 = .ok (.aload_n 0, 1) := by decide +kernel
theorem dX8_size_1 : decode cX8_size 1 = .ok (.iconst 0, 1) := by decide +kernel
theorem dX8_size_2 : decode cX8_size 2 = .ok (.putfield 96, 3) := by decide +kernel
theorem dX8_size_5 : decode cX8_size 5 = .ok (.aload_n 0, 1) := by decide +kernel
theorem dX8_size_6 : decode cX8_size 6 = .ok (.getfield 104, 3) := by decide +kernel
theorem dX8_size_9 : decode cX8_size 9 = .ok (.ireturn, 1) := by decide +kernel
theorem dX8_trouble_0 : decode cX8_trouble 0 = .ok (.aload_n 0, 1) := by decide +kernel
theorem dX8_trouble_1 : decode cX8_trouble 1 = .ok (.iconst 0, 1) := by decide +kernel
theorem dX8_trouble_2 : decode cX8_trouble 2 = .ok (.putfield 96, 3) := by decide +kernel
theorem dX8_trouble_5 : decode cX8_trouble 5 = .ok (.aload_n 0, 1) := by decide +kernel
theorem dX8_trouble_6 : decode cX8_trouble 6 = .ok (.getfield 99, 3) := by decide +kernel
theorem dX8_trouble_9 : decode cX8_trouble 9 = .ok (.ireturn, 1) := by decide +kernel
