set_option maxRecDepth 20000 in
theorem gX2_markOfHabit_X2_markOfRule : GoodIn wsX2_markOfHabit (wsV RX2 139 RX2 yX2_markOfRule wsX2_markOfRule) := goodIn_app (goodIn_of _ (by decide +kernel)) ggX2_markOfHabit_X2_markOfRule
set_option maxRecDepth 20000 in
theorem ggX2_markOfHabit_J6_bitCount_0f7a4 : GoodIn wsX2_markOfHabit wsJ6_bitCount_0f7a4 := goodIn_r _ [12, 13, 14, 15] (by decide +kernel) (by decide +kernel)
set_option maxRecDepth 20000 in
theorem gX2_markOfHabit_J6_bitCount_0f7a4 : GoodIn wsX2_markOfHabit (va_wsS RX2 118 yJ6_bitCount_0f7a4 wsJ6_bitCount_0f7a4) := goodIn_app (goodIn_of _ (by decide +kernel)) ggX2_markOfHabit_J6_bitCount_0f7a4
theorem dX2_markOfHabit_0 : decode cX2_markOfHabit 0 = .ok (.aload_n 0, 1) := by decide +kernel
theorem dX2_markOfHabit_1 : decode cX2_markOfHabit 1 = .ok (.dup, 1) := by decide +kernel
theorem dX2_markOfHabit_2 : decode cX2_markOfHabit 2 = .ok (.getfield 157, 3) := by decide +kernel
theorem dX2_markOfHabit_5 : decode cX2_markOfHabit 5 = .ok (.ldc2_w 163, 3) := by decide +kernel
theorem dX2_markOfHabit_8 : decode cX2_markOfHabit 8 = .ok (.ladd, 1) := by decide +kernel
theorem dX2_markOfHabit_9 : decode cX2_markOfHabit 9 = .ok (.putfield 157, 3) := by decide +kernel
theorem dX2_markOfHabit_12 : decode cX2_markOfHabit 12 = .ok (.aload_n 0, 1) := by decide +kernel
theorem dX2_markOfHabit_13 : decode cX2_markOfHabit 13 = .ok (.iload_n 1, 1) := by decide +kernel
theorem dX2_markOfHabit_14 : decode cX2_markOfHabit 14 = .ok (.invokevirtual 139, 3) := by decide +kernel
theorem dX2_markOfHabit_17 : decode cX2_markOfHabit 17 = .ok (.aload_n 0, 1) := by decide +kernel
theorem dX2_markOfHabit_18 : decode cX2_markOfHabit 18 = .ok (.getfield 19, 3) := by decide +kernel
theorem dX2_markOfHabit_21 : decode cX2_markOfHabit 21 = .ok (.getfield 70, 3) := by decide +kernel
theorem dX2_markOfHabit_24 : decode cX2_markOfHabit 24 = .ok (.iload_n 1, 1) := by decide +kernel
theorem dX2_markOfHabit_25 : decode cX2_markOfHabit 25 = .ok (.iaload, 1) := by decide +kernel
theorem dX2_markOfHabit_26 : decode cX2_markOfHabit 26 = .ok (.invokestatic 118, 3) := by decide +kernel
theorem dX2_markOfHabit_29 : decode cX2_markOfHabit 29 = .ok (.isub, 1) := by decide +kernel
theorem dX2_markOfHabit_30 : decode cX2_markOfHabit 30 = .ok (.ireturn, 1) := by decide +kernel
set_option maxRecDepth 20000 in
theorem ggX2_markOfDecree_X2_markOfLaw : GoodIn wsX2_markOfDecree wsX2_markOfLaw := goodIn_r _ [7, 1, 8, 9, 10, 11, 6, 12, 13, 14, 15, 16, 17, 18, 19, 20, 21, 22, 23, 24, 25, 26, 27, 28, 29, 30, 31, 32, 33, 34] (by decide +kernel) (by decide +kernel)
set_option maxRecDepth 20000 in
theorem gX2_markOfDecree_X2_markOfLaw : GoodIn wsX2_markOfDecree (wsV RX2 142 RX2 yX2_markOfLaw wsX2_markOfLaw) := goodIn_app (goodIn_of _ (by decide +kernel)) ggX2_markOfDecree_X2_markOfLaw
theorem dX2_markOfDecree_0 : decode cX2_markOfDecree 0 = .ok (.aload_n 0, 1) := by decide +kernel
theorem dX2_markOfDecree_1 : decode cX2_markOfDecree 1 = .ok (.dup, 1) := by decide +kernel
theorem dX2_markOfDecree_2 : decode cX2_markOfDecree 2 = .ok (.getfield 157, 3) := by decide +kernel
theorem dX2_markOfDecree_5 : decode cX2_markOfDecree 5 = .ok (.ldc2_w 165, 3) := by decide +kernel
theorem dX2_markOfDecree_8 : decode cX2_markOfDecree 8 = .ok (.ladd, 1) := by decide +kernel
theorem dX2_markOfDecree_9 : decode cX2_markOfDecree 9 = .ok (.putfield 157, 3) := by decide +kernel
theorem dX2_markOfDecree_12 : decode cX2_markOfDecree 12 = .ok (.aload_n 0, 1) := by decide +kernel
theorem dX2_markOfDecree_13 : decode cX2_markOfDecree 13 = .ok (.iload_n 1, 1) := by decide +kernel
theorem dX2_markOfDecree_14 : decode cX2_markOfDecree 14 = .ok (.invokevirtual 142, 3) := by decide +kernel
theorem dX2_markOfDecree_17 : decode cX2_markOfDecree 17 = .ok (.iload_n 1, 1) := by decide +kernel
theorem dX2_markOfDecree_18 : decode cX2_markOfDecree 18 = .ok (.iadd, 1) := by decide +kernel
theorem dX2_markOfDecree_19 : decode cX2_markOfDecree 19 = .ok (.ireturn, 1) := by decide +kernel
set_option maxRecDepth 20000 in
theorem ggX2_markOfCustom_X2_markOfHabit : GoodIn wsX2_markOfCustom wsX2_markOfHabit := goodIn_r _ [8, 1, 9, 10, 11, 12, 13, 7, 14, 15, 16, 17, 18, 19, 20, 21, 25, 26, 27, 28, 29, 30, 31, 32, 33, 34, 35, 36, 37, 38] (by decide +kernel) (by decide +kernel)
set_option maxRecDepth 20000 in
theorem gX2_markOfCustom_X2_markOfHabit : GoodIn wsX2_markOfCustom (wsV RX2 145 RX2 yX2_markOfHabit wsX2_markOfHabit) := goodIn_app (goodIn_of _ (by decide +kernel)) ggX2_markOfCustom_X2_markOfHabit
set_option maxRecDepth 20000 in
theorem ggX2_markOfCustom_X2_bitOf : GoodIn wsX2_markOfCustom wsX2_bitOf := goodIn_r _ [24] (by decide +kernel) (by decide +kernel)
set_option maxRecDepth 20000 in
theorem gX2_markOfCustom_X2_bitOf : GoodIn wsX2_markOfCustom (va_wsS RX2 73 yX2_bitOf wsX2_bitOf) := goodIn_app (goodIn_of _ (by decide +kernel)) ggX2_markOfCustom_X2_bitOf
theorem dX2_markOfCustom_0 : decode cX2_markOfCustom 0 = .ok (.aload_n 0, 1) := by decide +kernel
theorem dX2_markOfCustom_1 : decode cX2_markOfCustom 1 = .ok (.dup, 1) := by decide +kernel
theorem dX2_markOfCustom_2 : decode cX2_markOfCustom 2 = .ok (.getfield 157, 3) := by decide +kernel
theorem dX2_markOfCustom_5 : decode cX2_markOfCustom 5 = .ok (.ldc2_w 167, 3) := by decide +kernel
theorem dX2_markOfCustom_8 : decode cX2_markOfCustom 8 = .ok (.ladd, 1) := by decide +kernel
theorem dX2_markOfCustom_9 : decode cX2_markOfCustom 9 = .ok (.putfield 157, 3) := by decide +kernel
theorem dX2_markOfCustom_12 : decode cX2_markOfCustom 12 = .ok (.aload_n 0, 1) := by decide +kernel
theorem dX2_markOfCustom_13 : decode cX2_markOfCustom 13 = .ok (.iload_n 1, 1) := by decide +kernel
theorem dX2_markOfCustom_14 : decode cX2_markOfCustom 14 = .ok (.invokevirtual 145, 3) := by decide +kernel
theorem dX2_markOfCustom_17 : decode cX2_markOfCustom 17 = .ok (.aload_n 0, 1) := by decide +kernel
theorem dX2_markOfCustom_18 : decode cX2_markOfCustom 18 = .ok (.getfield 51, 3) := by decide +kernel
theorem dX2_markOfCustom_21 : decode cX2_markOfCustom 21 = .ok (.iload_n 1, 1) := by decide +kernel
theorem dX2_markOfCustom_22 : decode cX2_markOfCustom 22 = .ok (.invokestatic 73, 3) := by decide +kernel
theorem dX2_markOfCustom_25 : decode cX2_markOfCustom 25 = .ok (.iadd, 1) := by decide +kernel
theorem dX2_markOfCustom_26 : decode cX2_markOfCustom 26 = .ok (.ireturn, 1) := by decide +kernel
set_option maxRecDepth 20000 in
theorem ggX2_markOfOath_X2_markOfRule : GoodIn wsX2_markOfOath wsX2_markOfRule := goodIn_r _ [8, 1, 3, 9, 10, 11, 12, 13, 14, 15, 16, 17, 18, 19, 20, 21, 22, 23, 24, 25, 26, 27, 28, 29] (by decide +kernel) (by decide +kernel)
set_option maxRecDepth 20000 in
theorem gX2_markOfOath_X2_markOfRule : GoodIn wsX2_markOfOath (wsV RX2 139 RX2 yX2_markOfRule wsX2_markOfRule) := goodIn_app (goodIn_of _ (by decide +kernel)) ggX2_markOfOath_X2_markOfRule
theorem dX2_markOfOath_0 : decode cX2_markOfOath 0 = .ok (.aload_n 0, 1) := by decide +kernel
theorem dX2_markOfOath_1 : decode cX2_markOfOath 1 = .ok (.dup, 1) := by decide +kernel
theorem dX2_markOfOath_2 : decode cX2_markOfOath 2 = .ok (.getfield 157, 3) := by decide +kernel
theorem dX2_markOfOath_5 : decode cX2_markOfOath 5 = .ok (.ldc2_w 169, 3) := by decide +kernel
theorem dX2_markOfOath_8 : decode cX2_markOfOath 8 = .ok (.ladd, 1) := by decide +kernel
theorem dX2_markOfOath_9 : decode cX2_markOfOath 9 = .ok (.putfield 157, 3) := by decide +kernel
theorem dX2_markOfOath_12 : decode cX2_markOfOath 12 = .ok (.aload_n 0, 1) := by decide +kernel
theorem dX2_markOfOath_13 : decode cX2_markOfOath 13 = .ok (.iload_n 1, 1) := by decide +kernel
theorem dX2_markOfOath_14 : decode cX2_markOfOath 14 = .ok (.invokevirtual 139, 3) := by decide +kernel
theorem dX2_markOfOath_17 : decode cX2_markOfOath 17 = .ok (.aload_n 0, 1) := by decide +kernel
theorem dX2_markOfOath_18 : decode cX2_markOfOath 18 = .ok (.getfield 19, 3) := by decide +kernel
theorem dX2_markOfOath_21 : decode cX2_markOfOath 21 = .ok (.getfield 64, 3) := by decide +kernel
theorem dX2_markOfOath_24 : decode cX2_markOfOath 24 = .ok (.iload_n 1, 1) := by decide +kernel
theorem dX2_markOfOath_25 : decode cX2_markOfOath 25 = .ok (.iaload, 1) := by decide +kernel
theorem dX2_markOfOath_26 : decode cX2_markOfOath 26 = .ok (.iadd, 1) := by decide +kernel
theorem dX2_markOfOath_27 : decode cX2_markOfOath 27 = .ok (.ireturn, 1) := by decide +kernel
