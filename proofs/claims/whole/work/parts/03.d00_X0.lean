theorem dX0_init_0 : decode cX0_init 0 = .ok (.aload_n 0, 1) := by decide +kernel
theorem dX0_init_1 : decode cX0_init 1 = .ok (.invokespecial 3, 3) := by decide +kernel
theorem dX0_init_4 : decode cX0_init 4 = .ok (.aload_n 0, 1) := by decide +kernel
theorem dX0_init_5 : decode cX0_init 5 = .ok (.bipush 12, 2) := by decide +kernel
theorem dX0_init_7 : decode cX0_init 7 = .ok (.newarray .int, 2) := by decide +kernel
theorem dX0_init_9 : decode cX0_init 9 = .ok (.putfield 9, 3) := by decide +kernel
theorem dX0_init_12 : decode cX0_init 12 = .ok (.aload_n 0, 1) := by decide +kernel
theorem dX0_init_13 : decode cX0_init 13 = .ok (.bipush 12, 2) := by decide +kernel
theorem dX0_init_15 : decode cX0_init 15 = .ok (.newarray .int, 2) := by decide +kernel
theorem dX0_init_17 : decode cX0_init 17 = .ok (.putfield 15, 3) := by decide +kernel
theorem dX0_init_20 : decode cX0_init 20 = .ok (.aload_n 0, 1) := by decide +kernel
theorem dX0_init_21 : decode cX0_init 21 = .ok (.bipush 12, 2) := by decide +kernel
theorem dX0_init_23 : decode cX0_init 23 = .ok (.newarray .int, 2) := by decide +kernel
theorem dX0_init_25 : decode cX0_init 25 = .ok (.putfield 18, 3) := by decide +kernel
theorem dX0_init_28 : decode cX0_init 28 = .ok (.return_, 1) := by decide +kernel
theorem dX0_note_0 : decode cX0_note 0 = .ok (.aload_n 0, 1) := by decide +kernel
theorem dX0_note_1 : decode cX0_note 1 = .ok (.getfield 21, 3) := by decide +kernel
theorem dX0_note_4 : decode cX0_note 4 = .ok (.bipush 12, 2) := by decide +kernel
theorem dX0_note_6 : decode cX0_note 6 = .ok (.if_icmp .lt 7, 3) := by decide +kernel
theorem dX0_note_9 : decode cX0_note 9 = .ok (.aload_n 0, 1) := by decide +kernel
theorem dX0_note_10 : decode cX0_note 10 = .ok (.invokevirtual 25, 3) := by decide +kernel
theorem dX0_note_13 : decode cX0_note 13 = .ok (.aload_n 0, 1) := by decide +kernel
theorem dX0_note_14 : decode cX0_note 14 = .ok (.getfield 9, 3) := by decide +kernel
theorem dX0_note_17 : decode cX0_note 17 = .ok (.aload_n 0, 1) := by decide +kernel
theorem dX0_note_18 : decode cX0_note 18 = .ok (.getfield 21, 3) := by decide +kernel
theorem dX0_note_21 : decode cX0_note 21 = .ok (.iload_n 1, 1) := by decide +kernel
theorem dX0_note_22 : decode cX0_note 22 = .ok (.iastore, 1) := by decide +kernel
theorem dX0_note_23 : decode cX0_note 23 = .ok (.aload_n 0, 1) := by decide +kernel
theorem dX0_note_24 : decode cX0_note 24 = .ok (.getfield 15, 3) := by decide +kernel
theorem dX0_note_27 : decode cX0_note 27 = .ok (.aload_n 0, 1) := by decide +kernel
theorem dX0_note_28 : decode cX0_note 28 = .ok (.getfield 21, 3) := by decide +kernel
theorem dX0_note_31 : decode cX0_note 31 = .ok (.iload_n 2, 1) := by decide +kernel
theorem dX0_note_32 : decode cX0_note 32 = .ok (.iastore, 1) := by decide +kernel
theorem dX0_note_33 : decode cX0_note 33 = .ok (.aload_n 0, 1) := by decide +kernel
theorem dX0_note_34 : decode cX0_note 34 = .ok (.getfield 18, 3) := by decide +kernel
theorem dX0_note_37 : decode cX0_note 37 = .ok (.aload_n 0, 1) := by decide +kernel
theorem dX0_note_38 : decode cX0_note 38 = .ok (.getfield 21, 3) := by decide +kernel
theorem dX0_note_41 : decode cX0_note 41 = .ok (.iload_n 3, 1) := by decide +kernel
theorem dX0_note_42 : decode cX0_note 42 = .ok (.iastore, 1) := by decide +kernel
theorem dX0_note_43 : decode cX0_note 43 = .ok (.aload_n 0, 1) := by decide +kernel
theorem dX0_note_44 : decode cX0_note 44 = .ok (.dup, 1) := by decide +kernel
theorem dX0_note_45 : decode cX0_note 45 = .ok (.getfield 21, 3) := by decide +kernel
theorem dX0_note_48 : decode cX0_note 48 = .ok (.iconst 1, 1) := by decide +kernel
theorem dX0_note_49 : decode cX0_note 49 = .ok (.iadd, 1) := by decide +kernel
theorem dX0_note_50 : decode cX0_note 50 = .ok (.putfield 21, 3) := by decide +kernel
theorem dX0_note_53 : decode cX0_note 53 = .ok (.return_, 1) := by decide +kernel
theorem dX0_dropFirst_0 : decode cX0_dropFirst 0 = .ok (.aload_n 0, 1) := by decide +kernel
theorem dX0_dropFirst_1 : decode cX0_dropFirst 1 = .ok (.bipush 11, 2) := by decide +kernel
theorem dX0_dropFirst_3 : decode cX0_dropFirst 3 = .ok (.putfield 21, 3) := by decide +kernel
theorem dX0_dropFirst_6 : decode cX0_dropFirst 6 = .ok (.aload_n 0, 1) := by decide +kernel
theorem dX0_dropFirst_7 : decode cX0_dropFirst 7 = .ok (.getfield 9, 3) := by decide +kernel
theorem dX0_dropFirst_10 : decode cX0_dropFirst 10 = .ok (.iconst 1, 1) := by decide +kernel
theorem dX0_dropFirst_11 : decode cX0_dropFirst 11 = .ok (.aload_n 0, 1) := by decide +kernel
theorem dX0_dropFirst_12 : decode cX0_dropFirst 12 = .ok (.getfield 9, 3) := by decide +kernel
theorem dX0_dropFirst_15 : decode cX0_dropFirst 15 = .ok (.iconst 0, 1) := by decide +kernel
theorem dX0_dropFirst_16 : decode cX0_dropFirst 16 = .ok (.aload_n 0, 1) := by decide +kernel
theorem dX0_dropFirst_17 : decode cX0_dropFirst 17 = .ok (.getfield 21, 3) := by decide +kernel
theorem dX0_dropFirst_20 : decode cX0_dropFirst 20 = .ok (.invokestatic 28, 3) := by decide +kernel
theorem dX0_dropFirst_23 : decode cX0_dropFirst 23 = .ok (.aload_n 0, 1) := by decide +kernel
theorem dX0_dropFirst_24 : decode cX0_dropFirst 24 = .ok (.getfield 15, 3) := by decide +kernel
theorem dX0_dropFirst_27 : decode cX0_dropFirst 27 = .ok (.iconst 1, 1) := by decide +kernel
theorem dX0_dropFirst_28 : decode cX0_dropFirst 28 = .ok (.aload_n 0, 1) := by decide +kernel
theorem dX0_dropFirst_29 : decode cX0_dropFirst 29 = .ok (.getfield 15, 3) := by decide +kernel
theorem dX0_dropFirst_32 : decode cX0_dropFirst 32 = .ok (.iconst 0, 1) := by decide +kernel
theorem dX0_dropFirst_33 : decode cX0_dropFirst 33 = .ok (.aload_n 0, 1) := by decide +kernel
theorem dX0_dropFirst_34 : decode cX0_dropFirst 34 = .ok (.getfield 21, 3) := by decide +kernel
theorem dX0_dropFirst_37 : decode cX0_dropFirst 37 = .ok (.invokestatic 28, 3) := by decide +kernel
theorem dX0_dropFirst_40 : decode cX0_dropFirst 40 = .ok (.aload_n 0, 1) := by decide +kernel
theorem dX0_dropFirst_41 : decode cX0_dropFirst 41 = .ok (.getfield 18, 3) := by decide +kernel
theorem dX0_dropFirst_44 : decode cX0_dropFirst 44 = .ok (.iconst 1, 1) := by decide +kernel
theorem dX0_dropFirst_45 : decode cX0_dropFirst 45 = .ok (.aload_n 0, 1) := by decide +kernel
theorem dX0_dropFirst_46 : decode cX0_dropFirst 46 = .ok (.getfield 18, 3) := by decide +kernel
theorem dX0_dropFirst_49 : decode cX0_dropFirst 49 = .ok (.iconst 0, 1) := by decide +kernel
theorem dX0_dropFirst_50 : decode cX0_dropFirst 50 = .ok (.aload_n 0, 1) := by decide +kernel
theorem dX0_dropFirst_51 : decode cX0_dropFirst 51 = .ok (.getfield 21, 3) := by decide +kernel
theorem dX0_dropFirst_54 : decode cX0_dropFirst 54 = .ok (.invokestatic 28, 3) := by decide +kernel
theorem dX0_dropFirst_57 : decode cX0_dropFirst 57 = .ok (.return_, 1) := by decide +kernel
theorem dX0_takeBackLatest_0 : decode cX0_takeBackLatest 0 = .ok (.aload_n 0, 1) := by decide +kernel
theorem dX0_takeBackLatest_1 : decode cX0_takeBackLatest 1 = .ok (.getfield 21, 3) := by decide +kernel
theorem dX0_takeBackLatest_4 : decode cX0_takeBackLatest 4 = .ok (.ifCond .gt 4, 3) := by decide +kernel
theorem dX0_takeBackLatest_7 : decode cX0_takeBackLatest 7 = .ok (.return_, 1) := by decide +kernel
theorem dX0_takeBackLatest_8 : decode cX0_takeBackLatest 8 = .ok (.aload_n 0, 1) := by decide +kernel
theorem dX0_takeBackLatest_9 : decode cX0_takeBackLatest 9 = .ok (.dup, 1) := by decide +kernel
theorem dX0_takeBackLatest_10 : decode cX0_takeBackLatest 10 = .ok (.getfield 21, 3) := by decide +kernel
theorem dX0_takeBackLatest_13 : decode cX0_takeBackLatest 13 = .ok (.iconst 1, 1) := by decide +kernel
theorem dX0_takeBackLatest_14 : decode cX0_takeBackLatest 14 = .ok (.isub, 1) := by decide +kernel
theorem dX0_takeBackLatest_15 : decode cX0_takeBackLatest 15 = .ok (.putfield 21, 3) := by decide +kernel
theorem dX0_takeBackLatest_18 : decode cX0_takeBackLatest 18 = .ok (.aload_n 0, 1) := by decide +kernel
theorem dX0_takeBackLatest_19 : decode cX0_takeBackLatest 19 = .ok (.getfield 15, 3) := by decide +kernel
theorem dX0_takeBackLatest_22 : decode cX0_takeBackLatest 22 = .ok (.aload_n 0, 1) := by decide +kernel
theorem dX0_takeBackLatest_23 : decode cX0_takeBackLatest 23 = .ok (.getfield 21, 3) := by decide +kernel
theorem dX0_takeBackLatest_26 : decode cX0_takeBackLatest 26 = .ok (.iaload, 1) := by decide +kernel
theorem dX0_takeBackLatest_27 : decode cX0_takeBackLatest 27 = .ok (.istore_n 2, 1) := by decide +kernel
theorem dX0_takeBackLatest_28 : decode cX0_takeBackLatest 28 = .ok (.aload_n 0, 1) := by decide +kernel
theorem dX0_takeBackLatest_29 : decode cX0_takeBackLatest 29 = .ok (.getfield 18, 3) := by decide +kernel
theorem dX0_takeBackLatest_32 : decode cX0_takeBackLatest 32 = .ok (.aload_n 0, 1) := by decide +kernel
theorem dX0_takeBackLatest_33 : decode cX0_takeBackLatest 33 = .ok (.getfield 21, 3) := by decide +kernel
theorem dX0_takeBackLatest_36 : decode cX0_takeBackLatest 36 = .ok (.iaload, 1) := by decide +kernel
theorem dX0_takeBackLatest_37 : decode cX0_takeBackLatest 37 = .ok (.istore_n 3, 1) := by decide +kernel
theorem dX0_takeBackLatest_38 : decode cX0_takeBackLatest 38 = .ok (.aload_n 0, 1) := by decide +kernel
theorem dX0_takeBackLatest_39 : decode cX0_takeBackLatest 39 = .ok (.getfield 9, 3) := by decide +kernel
theorem dX0_takeBackLatest_42 : decode cX0_takeBackLatest 42 = .ok (.aload_n 0, 1) := by decide +kernel
theorem dX0_takeBackLatest_43 : decode cX0_takeBackLatest 43 = .ok (.getfield 21, 3) := by decide +kernel
theorem dX0_takeBackLatest_46 : decode cX0_takeBackLatest 46 = .ok (.iaload, 1) := by decide +kernel
theorem dX0_takeBackLatest_47 : decode cX0_takeBackLatest 47 = .ok (.tableswitch 64 0 2 #[25, 46, 56], 25) := by decide +kernel
theorem dX0_takeBackLatest_72 : decode cX0_takeBackLatest 72 = .ok (.aload_n 1, 1) := by decide +kernel
theorem dX0_takeBackLatest_73 : decode cX0_takeBackLatest 73 = .ok (.aload_n 1, 1) := by decide +kernel
theorem dX0_takeBackLatest_74 : decode cX0_takeBackLatest 74 = .ok (.getfield 34, 3) := by decide +kernel
theorem dX0_takeBackLatest_77 : decode cX0_takeBackLatest 77 = .ok (.iconst 1, 1) := by decide +kernel
theorem dX0_takeBackLatest_78 : decode cX0_takeBackLatest 78 = .ok (.iload_n 2, 1) := by decide +kernel
theorem dX0_takeBackLatest_79 : decode cX0_takeBackLatest 79 = .ok (.ishl, 1) := by decide +kernel
theorem dX0_takeBackLatest_80 : decode cX0_takeBackLatest 80 = .ok (.iconst (-1), 1) := by decide +kernel
theorem dX0_takeBackLatest_81 : decode cX0_takeBackLatest 81 = .ok (.ixor, 1) := by decide +kernel
theorem dX0_takeBackLatest_82 : decode cX0_takeBackLatest 82 = .ok (.iand, 1) := by decide +kernel
theorem dX0_takeBackLatest_83 : decode cX0_takeBackLatest 83 = .ok (.iload_n 3, 1) := by decide +kernel
theorem dX0_takeBackLatest_84 : decode cX0_takeBackLatest 84 = .ok (.iload_n 2, 1) := by decide +kernel
theorem dX0_takeBackLatest_85 : decode cX0_takeBackLatest 85 = .ok (.ishl, 1) := by decide +kernel
theorem dX0_takeBackLatest_86 : decode cX0_takeBackLatest 86 = .ok (.ior, 1) := by decide +kernel
theorem dX0_takeBackLatest_87 : decode cX0_takeBackLatest 87 = .ok (.putfield 34, 3) := by decide +kernel
theorem dX0_takeBackLatest_90 : decode cX0_takeBackLatest 90 = .ok (.goto 28, 3) := by decide +kernel
theorem dX0_takeBackLatest_93 : decode cX0_takeBackLatest 93 = .ok (.aload_n 1, 1) := by decide +kernel
theorem dX0_takeBackLatest_94 : decode cX0_takeBackLatest 94 = .ok (.getfield 39, 3) := by decide +kernel
theorem dX0_takeBackLatest_97 : decode cX0_takeBackLatest 97 = .ok (.iload_n 2, 1) := by decide +kernel
theorem dX0_takeBackLatest_98 : decode cX0_takeBackLatest 98 = .ok (.iload_n 3, 1) := by decide +kernel
theorem dX0_takeBackLatest_99 : decode cX0_takeBackLatest 99 = .ok (.iastore, 1) := by decide +kernel
theorem dX0_takeBackLatest_100 : decode cX0_takeBackLatest 100 = .ok (.goto 18, 3) := by decide +kernel
theorem dX0_takeBackLatest_103 : decode cX0_takeBackLatest 103 = .ok (.aload_n 1, 1) := by decide +kernel
theorem dX0_takeBackLatest_104 : decode cX0_takeBackLatest 104 = .ok (.iload_n 3, 1) := by decide +kernel
theorem dX0_takeBackLatest_105 : decode cX0_takeBackLatest 105 = .ok (.putfield 42, 3) := by decide +kernel
theorem dX0_takeBackLatest_108 : decode cX0_takeBackLatest 108 = .ok (.goto 10, 3) := by decide +kernel
theorem dX0_takeBackLatest_111 : decode cX0_takeBackLatest 111 = .ok (.aload_n 1, 1) := by decide +kernel
theorem dX0_takeBackLatest_112 : decode cX0_takeBackLatest 112 = .ok (.getfield 45, 3) := by decide +kernel
theorem dX0_takeBackLatest_115 : decode cX0_takeBackLatest 115 = .ok (.iload_n 2, 1) := by decide +kernel
theorem dX0_takeBackLatest_116 : decode cX0_takeBackLatest 116 = .ok (.iload_n 3, 1) := by decide +kernel
theorem dX0_takeBackLatest_117 : decode cX0_takeBackLatest 117 = .ok (.iastore, 1) := by decide +kernel
theorem dX0_takeBackLatest_118 : decode cX0_takeBackLatest 118 = .ok (.return_, 1) := by decide +kernel
