theorem dX1_init_0 : decode cX1_init 0 = .ok (.aload_n 0, 1) := by decide +kernel
theorem dX1_init_1 : decode cX1_init 1 = .ok (.invokespecial 3, 3) := by decide +kernel
theorem dX1_init_4 : decode cX1_init 4 = .ok (.aload_n 0, 1) := by decide +kernel
theorem dX1_init_5 : decode cX1_init 5 = .ok (.bipush 9, 2) := by decide +kernel
theorem dX1_init_7 : decode cX1_init 7 = .ok (.newarray .int, 2) := by decide +kernel
theorem dX1_init_9 : decode cX1_init 9 = .ok (.putfield 9, 3) := by decide +kernel
theorem dX1_init_12 : decode cX1_init 12 = .ok (.return_, 1) := by decide +kernel
theorem dX1_note_0 : decode cX1_note 0 = .ok (.aload_n 0, 1) := by decide +kernel
theorem dX1_note_1 : decode cX1_note 1 = .ok (.dup, 1) := by decide +kernel
theorem dX1_note_2 : decode cX1_note 2 = .ok (.getfield 15, 3) := by decide +kernel
theorem dX1_note_5 : decode cX1_note 5 = .ok (.iconst 1, 1) := by decide +kernel
theorem dX1_note_6 : decode cX1_note 6 = .ok (.iload_n 1, 1) := by decide +kernel
theorem dX1_note_7 : decode cX1_note 7 = .ok (.ishl, 1) := by decide +kernel
theorem dX1_note_8 : decode cX1_note 8 = .ok (.ior, 1) := by decide +kernel
theorem dX1_note_9 : decode cX1_note 9 = .ok (.putfield 15, 3) := by decide +kernel
theorem dX1_note_12 : decode cX1_note 12 = .ok (.aload_n 0, 1) := by decide +kernel
theorem dX1_note_13 : decode cX1_note 13 = .ok (.getfield 9, 3) := by decide +kernel
theorem dX1_note_16 : decode cX1_note 16 = .ok (.iload_n 1, 1) := by decide +kernel
theorem dX1_note_17 : decode cX1_note 17 = .ok (.iload_n 2, 1) := by decide +kernel
theorem dX1_note_18 : decode cX1_note 18 = .ok (.iastore, 1) := by decide +kernel
theorem dX1_note_19 : decode cX1_note 19 = .ok (.aload_n 0, 1) := by decide +kernel
theorem dX1_note_20 : decode cX1_note 20 = .ok (.iconst 0, 1) := by decide +kernel
theorem dX1_note_21 : decode cX1_note 21 = .ok (.putfield 19, 3) := by decide +kernel
theorem dX1_note_24 : decode cX1_note 24 = .ok (.return_, 1) := by decide +kernel
theorem dX1_clear_0 : decode cX1_clear 0 = .ok (.aload_n 0, 1) := by decide +kernel
theorem dX1_clear_1 : decode cX1_clear 1 = .ok (.iconst 0, 1) := by decide +kernel
theorem dX1_clear_2 : decode cX1_clear 2 = .ok (.putfield 15, 3) := by decide +kernel
theorem dX1_clear_5 : decode cX1_clear 5 = .ok (.return_, 1) := by decide +kernel
theorem dX1_count_0 : decode cX1_count 0 = .ok (.aload_n 0, 1) := by decide +kernel
theorem dX1_count_1 : decode cX1_count 1 = .ok (.getfield 15, 3) := by decide +kernel
theorem dX1_count_4 : decode cX1_count 4 = .ok (.invokestatic 23, 3) := by decide +kernel
theorem dX1_count_7 : decode cX1_count 7 = .ok (.ireturn, 1) := by decide +kernel
theorem dX1_farFrom_0 : decode cX1_farFrom 0 = .ok (.lconst 0, 1) := by decide +kernel
theorem dX1_farFrom_1 : decode cX1_farFrom 1 = .ok (.lstore_n 2, 1) := by decide +kernel
theorem dX1_farFrom_2 : decode cX1_farFrom 2 = .ok (.iconst 1, 1) := by decide +kernel
theorem dX1_farFrom_3 : decode cX1_farFrom 3 = .ok (.istore 4, 2) := by decide +kernel
theorem dX1_farFrom_5 : decode cX1_farFrom 5 = .ok (.iload 4, 2) := by decide +kernel
theorem dX1_farFrom_7 : decode cX1_farFrom 7 = .ok (.bipush 9, 2) := by decide +kernel
theorem dX1_farFrom_9 : decode cX1_farFrom 9 = .ok (.if_icmp .ge 77, 3) := by decide +kernel
theorem dX1_farFrom_12 : decode cX1_farFrom 12 = .ok (.aload_n 0, 1) := by decide +kernel
theorem dX1_farFrom_13 : decode cX1_farFrom 13 = .ok (.getfield 15, 3) := by decide +kernel
theorem dX1_farFrom_16 : decode cX1_farFrom 16 = .ok (.iload 4, 2) := by decide +kernel
theorem dX1_farFrom_18 : decode cX1_farFrom 18 = .ok (.invokestatic 29, 3) := by decide +kernel
theorem dX1_farFrom_21 : decode cX1_farFrom 21 = .ok (.iconst 1, 1) := by decide +kernel
theorem dX1_farFrom_22 : decode cX1_farFrom 22 = .ok (.if_icmp .ne 58, 3) := by decide +kernel
theorem dX1_farFrom_25 : decode cX1_farFrom 25 = .ok (.aload_n 1, 1) := by decide +kernel
theorem dX1_farFrom_26 : decode cX1_farFrom 26 = .ok (.getfield 33, 3) := by decide +kernel
theorem dX1_farFrom_29 : decode cX1_farFrom 29 = .ok (.getfield 39, 3) := by decide +kernel
theorem dX1_farFrom_32 : decode cX1_farFrom 32 = .ok (.iload 4, 2) := by decide +kernel
theorem dX1_farFrom_34 : decode cX1_farFrom 34 = .ok (.invokestatic 29, 3) := by decide +kernel
theorem dX1_farFrom_37 : decode cX1_farFrom 37 = .ok (.ifCond .ne 7, 3) := by decide +kernel
theorem dX1_farFrom_40 : decode cX1_farFrom 40 = .ok (.iconst 1, 1) := by decide +kernel
theorem dX1_farFrom_41 : decode cX1_farFrom 41 = .ok (.goto 4, 3) := by decide +kernel
theorem dX1_farFrom_44 : decode cX1_farFrom 44 = .ok (.iconst 0, 1) := by decide +kernel
theorem dX1_farFrom_45 : decode cX1_farFrom 45 = .ok (.istore 5, 2) := by decide +kernel
theorem dX1_farFrom_47 : decode cX1_farFrom 47 = .ok (.lload_n 2, 1) := by decide +kernel
theorem dX1_farFrom_48 : decode cX1_farFrom 48 = .ok (.iload 5, 2) := by decide +kernel
theorem dX1_farFrom_50 : decode cX1_farFrom 50 = .ok (.ifCond .eq 9, 3) := by decide +kernel
theorem dX1_farFrom_53 : decode cX1_farFrom 53 = .ok (.ldc2_w 44, 3) := by decide +kernel
theorem dX1_farFrom_56 : decode cX1_farFrom 56 = .ok (.goto 22, 3) := by decide +kernel
theorem dX1_farFrom_59 : decode cX1_farFrom 59 = .ok (.aload_n 1, 1) := by decide +kernel
theorem dX1_farFrom_60 : decode cX1_farFrom 60 = .ok (.getfield 46, 3) := by decide +kernel
theorem dX1_farFrom_63 : decode cX1_farFrom 63 = .ok (.iload 4, 2) := by decide +kernel
theorem dX1_farFrom_65 : decode cX1_farFrom 65 = .ok (.laload, 1) := by decide +kernel
theorem dX1_farFrom_66 : decode cX1_farFrom 66 = .ok (.aload_n 0, 1) := by decide +kernel
theorem dX1_farFrom_67 : decode cX1_farFrom 67 = .ok (.getfield 9, 3) := by decide +kernel
theorem dX1_farFrom_70 : decode cX1_farFrom 70 = .ok (.iload 4, 2) := by decide +kernel
theorem dX1_farFrom_72 : decode cX1_farFrom 72 = .ok (.iaload, 1) := by decide +kernel
theorem dX1_farFrom_73 : decode cX1_farFrom 73 = .ok (.i2l, 1) := by decide +kernel
theorem dX1_farFrom_74 : decode cX1_farFrom 74 = .ok (.lsub, 1) := by decide +kernel
theorem dX1_farFrom_75 : decode cX1_farFrom 75 = .ok (.invokestatic 50, 3) := by decide +kernel
theorem dX1_farFrom_78 : decode cX1_farFrom 78 = .ok (.ladd, 1) := by decide +kernel
theorem dX1_farFrom_79 : decode cX1_farFrom 79 = .ok (.lstore_n 2, 1) := by decide +kernel
theorem dX1_farFrom_80 : decode cX1_farFrom 80 = .ok (.iinc 4 1, 3) := by decide +kernel
theorem dX1_farFrom_83 : decode cX1_farFrom 83 = .ok (.goto (-78), 3) := by decide +kernel
theorem dX1_farFrom_86 : decode cX1_farFrom 86 = .ok (.lload_n 2, 1) := by decide +kernel
theorem dX1_farFrom_87 : decode cX1_farFrom 87 = .ok (.lreturn, 1) := by decide +kernel
theorem dX1_offerLeak_0 : decode cX1_offerLeak 0 = .ok (.lload_n 3, 1) := by decide +kernel
theorem dX1_offerLeak_1 : decode cX1_offerLeak 1 = .ok (.aload_n 0, 1) := by decide +kernel
theorem dX1_offerLeak_2 : decode cX1_offerLeak 2 = .ok (.getfield 56, 3) := by decide +kernel
theorem dX1_offerLeak_5 : decode cX1_offerLeak 5 = .ok (.lcmp, 1) := by decide +kernel
theorem dX1_offerLeak_6 : decode cX1_offerLeak 6 = .ok (.ifCond .ge 18, 3) := by decide +kernel
theorem dX1_offerLeak_9 : decode cX1_offerLeak 9 = .ok (.aload_n 0, 1) := by decide +kernel
theorem dX1_offerLeak_10 : decode cX1_offerLeak 10 = .ok (.iload_n 1, 1) := by decide +kernel
theorem dX1_offerLeak_11 : decode cX1_offerLeak 11 = .ok (.putfield 60, 3) := by decide +kernel
theorem dX1_offerLeak_14 : decode cX1_offerLeak 14 = .ok (.aload_n 0, 1) := by decide +kernel
theorem dX1_offerLeak_15 : decode cX1_offerLeak 15 = .ok (.iload_n 2, 1) := by decide +kernel
theorem dX1_offerLeak_16 : decode cX1_offerLeak 16 = .ok (.putfield 63, 3) := by decide +kernel
theorem dX1_offerLeak_19 : decode cX1_offerLeak 19 = .ok (.aload_n 0, 1) := by decide +kernel
theorem dX1_offerLeak_20 : decode cX1_offerLeak 20 = .ok (.lload_n 3, 1) := by decide +kernel
theorem dX1_offerLeak_21 : decode cX1_offerLeak 21 = .ok (.putfield 56, 3) := by decide +kernel
theorem dX1_offerLeak_24 : decode cX1_offerLeak 24 = .ok (.return_, 1) := by decide +kernel
