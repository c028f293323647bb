theorem dX3_onlyWord_71 : decode cX3_onlyWord 71 = .ok (.iload_n 3, 1) := by decide +kernel
theorem dX3_onlyWord_72 : decode cX3_onlyWord 72 = .ok (.iload_n 2, 1) := by decide +kernel
theorem dX3_onlyWord_73 : decode cX3_onlyWord 73 = .ok (.isub, 1) := by decide +kernel
theorem dX3_onlyWord_74 : decode cX3_onlyWord 74 = .ok (.bipush 6, 2) := by decide +kernel
theorem dX3_onlyWord_76 : decode cX3_onlyWord 76 = .ok (.if_icmp .gt 12, 3) := by decide +kernel
theorem dX3_onlyWord_79 : decode cX3_onlyWord 79 = .ok (.aload_n 0, 1) := by decide +kernel
theorem dX3_onlyWord_80 : decode cX3_onlyWord 80 = .ok (.iload_n 2, 1) := by decide +kernel
theorem dX3_onlyWord_81 : decode cX3_onlyWord 81 = .ok (.iload_n 3, 1) := by decide +kernel
theorem dX3_onlyWord_82 : decode cX3_onlyWord 82 = .ok (.invokestatic 156, 3) := by decide +kernel
theorem dX3_onlyWord_85 : decode cX3_onlyWord 85 = .ok (.goto 4, 3) := by decide +kernel
theorem dX3_onlyWord_88 : decode cX3_onlyWord 88 = .ok (.lconst 0, 1) := by decide +kernel
theorem dX3_onlyWord_89 : decode cX3_onlyWord 89 = .ok (.lreturn, 1) := by decide +kernel
