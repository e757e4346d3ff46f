theorem dX2_isSentence_0 : decode cX2_isSentence 0 = .ok (.iload_n 0, 1) := by decide +kernel
theorem dX2_isSentence_1 : decode cX2_isSentence 1 = .ok (.ifCond .lt 13, 3) := by decide +kernel
theorem dX2_isSentence_4 : decode cX2_isSentence 4 = .ok (.iload_n 0, 1) := by decide +kernel
theorem dX2_isSentence_5 : decode cX2_isSentence 5 = .ok (.bipush 8, 2) := by decide +kernel
theorem dX2_isSentence_7 : decode cX2_isSentence 7 = .ok (.if_icmp .ge 7, 3) := by decide +kernel
theorem dX2_isSentence_10 : decode cX2_isSentence 10 = .ok (.iconst 1, 1) := by decide +kernel
theorem dX2_isSentence_11 : decode cX2_isSentence 11 = .ok (.goto 4, 3) := by decide +kernel
theorem dX2_isSentence_14 : decode cX2_isSentence 14 = .ok (.iconst 0, 1) := by decide +kernel
theorem dX2_isSentence_15 : decode cX2_isSentence 15 = .ok (.ireturn, 1) := by decide +kernel
theorem dX2_bitOf_0 : decode cX2_bitOf 0 = .ok (.iload_n 0, 1) := by decide +kernel
theorem dX2_bitOf_1 : decode cX2_bitOf 1 = .ok (.iload_n 1, 1) := by decide +kernel
theorem dX2_bitOf_2 : decode cX2_bitOf 2 = .ok (.ishr, 1) := by decide +kernel
theorem dX2_bitOf_3 : decode cX2_bitOf 3 = .ok (.iconst 1, 1) := by decide +kernel
theorem dX2_bitOf_4 : decode cX2_bitOf 4 = .ok (.iand, 1) := by decide +kernel
theorem dX2_bitOf_5 : decode cX2_bitOf 5 = .ok (.ireturn, 1) := by decide +kernel
