set_option maxRecDepth 20000 in
theorem gX2_explains_X2_isSet : GoodIn wsX2_explains (va_wsS RX2 95 yX2_isSet wsX2_isSet) := goodIn_app (goodIn_of _ (by decide +kernel)) ggX2_explains_X2_isSet
set_option maxRecDepth 20000 in
theorem ggX2_explains_J6_bitCount_0f7a4 : GoodIn wsX2_explains wsJ6_bitCount_0f7a4 := goodIn_r _ [12, 13, 14, 15] (by decide +kernel) (by decide +kernel)
set_option maxRecDepth 20000 in
theorem gX2_explains_J6_bitCount_0f7a4 : GoodIn wsX2_explains (va_wsS RX2 118 yJ6_bitCount_0f7a4 wsJ6_bitCount_0f7a4) := goodIn_app (goodIn_of _ (by decide +kernel)) ggX2_explains_J6_bitCount_0f7a4
set_option maxRecDepth 20000 in
theorem ggX2_explains_X2_standsWith : GoodIn wsX2_explains wsX2_standsWith := goodIn_r _ [19, 20, 21, 22, 23, 24, 25, 26, 27, 28, 29, 30, 31, 32, 33, 4, 34, 35, 36, 37, 38, 39, 40, 41, 42, 43, 44, 45, 46, 47, 48, 49, 50, 51, 52, 53, 54, 55, 56, 57, 58, 59, 60, 61, 62] (by decide +kernel) (by decide +kernel)
set_option maxRecDepth 20000 in
theorem gX2_explains_X2_standsWith : GoodIn wsX2_explains (wsV RX2 123 RX2 yX2_standsWith wsX2_standsWith) := goodIn_app (goodIn_of _ (by decide +kernel)) ggX2_explains_X2_standsWith
theorem dX2_explains_0 : decode cX2_explains 0 = .ok (.iload_n 1, 1) := by decide +kernel
theorem dX2_explains_1 : decode cX2_explains 1 = .ok (.invokestatic 84, 3) := by decide +kernel
theorem dX2_explains_4 : decode cX2_explains 4 = .ok (.ifCond .eq 10, 3) := by decide +kernel
theorem dX2_explains_7 : decode cX2_explains 7 = .ok (.iload_n 2, 1) := by decide +kernel
theorem dX2_explains_8 : decode cX2_explains 8 = .ok (.invokestatic 95, 3) := by decide +kernel
theorem dX2_explains_11 : decode cX2_explains 11 = .ok (.ifCond .ne 5, 3) := by decide +kernel
theorem dX2_explains_14 : decode cX2_explains 14 = .ok (.iconst (-1), 1) := by decide +kernel
theorem dX2_explains_15 : decode cX2_explains 15 = .ok (.ireturn, 1) := by decide +kernel
theorem dX2_explains_16 : decode cX2_explains 16 = .ok (.iconst 0, 1) := by decide +kernel
theorem dX2_explains_17 : decode cX2_explains 17 = .ok (.istore_n 3, 1) := by decide +kernel
theorem dX2_explains_18 : decode cX2_explains 18 = .ok (.iload_n 3, 1) := by decide +kernel
theorem dX2_explains_19 : decode cX2_explains 19 = .ok (.iconst 3, 1) := by decide +kernel
theorem dX2_explains_20 : decode cX2_explains 20 = .ok (.if_icmp .gt 72, 3) := by decide +kernel
theorem dX2_explains_23 : decode cX2_explains 23 = .ok (.iconst 0, 1) := by decide +kernel
theorem dX2_explains_24 : decode cX2_explains 24 = .ok (.istore 4, 2) := by decide +kernel
theorem dX2_explains_26 : decode cX2_explains 26 = .ok (.iload 4, 2) := by decide +kernel
theorem dX2_explains_28 : decode cX2_explains 28 = .ok (.iload_n 2, 1) := by decide +kernel
theorem dX2_explains_29 : decode cX2_explains 29 = .ok (.if_icmp .gt 57, 3) := by decide +kernel
theorem dX2_explains_32 : decode cX2_explains 32 = .ok (.iload 4, 2) := by decide +kernel
theorem dX2_explains_34 : decode cX2_explains 34 = .ok (.iload_n 2, 1) := by decide +kernel
theorem dX2_explains_35 : decode cX2_explains 35 = .ok (.iconst (-1), 1) := by decide +kernel
theorem dX2_explains_36 : decode cX2_explains 36 = .ok (.ixor, 1) := by decide +kernel
theorem dX2_explains_37 : decode cX2_explains 37 = .ok (.iand, 1) := by decide +kernel
theorem dX2_explains_38 : decode cX2_explains 38 = .ok (.ifCond .ne 16, 3) := by decide +kernel
theorem dX2_explains_41 : decode cX2_explains 41 = .ok (.iload 4, 2) := by decide +kernel
theorem dX2_explains_43 : decode cX2_explains 43 = .ok (.invokestatic 118, 3) := by decide +kernel
theorem dX2_explains_46 : decode cX2_explains 46 = .ok (.iload_n 3, 1) := by decide +kernel
theorem dX2_explains_47 : decode cX2_explains 47 = .ok (.if_icmp .ne 7, 3) := by decide +kernel
theorem dX2_explains_50 : decode cX2_explains 50 = .ok (.iconst 1, 1) := by decide +kernel
theorem dX2_explains_51 : decode cX2_explains 51 = .ok (.goto 4, 3) := by decide +kernel
theorem dX2_explains_54 : decode cX2_explains 54 = .ok (.iconst 0, 1) := by decide +kernel
theorem dX2_explains_55 : decode cX2_explains 55 = .ok (.istore 5, 2) := by decide +kernel
theorem dX2_explains_57 : decode cX2_explains 57 = .ok (.iload 5, 2) := by decide +kernel
theorem dX2_explains_59 : decode cX2_explains 59 = .ok (.ifCond .eq 21, 3) := by decide +kernel
theorem dX2_explains_62 : decode cX2_explains 62 = .ok (.aload_n 0, 1) := by decide +kernel
theorem dX2_explains_63 : decode cX2_explains 63 = .ok (.iload_n 1, 1) := by decide +kernel
theorem dX2_explains_64 : decode cX2_explains 64 = .ok (.aload_n 0, 1) := by decide +kernel
theorem dX2_explains_65 : decode cX2_explains 65 = .ok (.getfield 54, 3) := by decide +kernel
theorem dX2_explains_68 : decode cX2_explains 68 = .ok (.iload 4, 2) := by decide +kernel
theorem dX2_explains_70 : decode cX2_explains 70 = .ok (.ior, 1) := by decide +kernel
theorem dX2_explains_71 : decode cX2_explains 71 = .ok (.invokevirtual 123, 3) := by decide +kernel
theorem dX2_explains_74 : decode cX2_explains 74 = .ok (.ifCond .eq 6, 3) := by decide +kernel
theorem dX2_explains_77 : decode cX2_explains 77 = .ok (.iload 4, 2) := by decide +kernel
theorem dX2_explains_79 : decode cX2_explains 79 = .ok (.ireturn, 1) := by decide +kernel
theorem dX2_explains_80 : decode cX2_explains 80 = .ok (.iinc 4 1, 3) := by decide +kernel
theorem dX2_explains_83 : decode cX2_explains 83 = .ok (.goto (-57), 3) := by decide +kernel
theorem dX2_explains_86 : decode cX2_explains 86 = .ok (.iinc 3 1, 3) := by decide +kernel
theorem dX2_explains_89 : decode cX2_explains 89 = .ok (.goto (-71), 3) := by decide +kernel
theorem dX2_explains_92 : decode cX2_explains 92 = .ok (.bipush (-9), 2) := by decide +kernel
theorem dX2_explains_94 : decode cX2_explains 94 = .ok (.ireturn, 1) := by decide +kernel
set_option maxRecDepth 20000 in
theorem ggX2_givesUp_X0_brokenBy : GoodIn wsX2_givesUp wsX0_brokenBy := goodIn_r _ [7, 8, 9, 10, 11, 12, 13, 14, 15, 5, 16, 17, 18, 51, 52, 53, 54, 55] (by decide +kernel) (by decide +kernel)
set_option maxRecDepth 20000 in
theorem gX2_givesUp_X0_brokenBy_n126 : GoodIn wsX2_givesUp (wsX0_brokenBy) := ggX2_givesUp_X0_brokenBy
set_option maxRecDepth 20000 in
theorem ggX2_givesUp_J6_bitCount_0f7a4 : GoodIn wsX2_givesUp wsJ6_bitCount_0f7a4 := goodIn_r _ [22, 23, 24, 25] (by decide +kernel) (by decide +kernel)
set_option maxRecDepth 20000 in
theorem gX2_givesUp_J6_bitCount_0f7a4 : GoodIn wsX2_givesUp (va_wsS RX2 118 yJ6_bitCount_0f7a4 wsJ6_bitCount_0f7a4) := goodIn_app (goodIn_of _ (by decide +kernel)) ggX2_givesUp_J6_bitCount_0f7a4
set_option maxRecDepth 20000 in
theorem ggX2_givesUp_X2_isBetter : GoodIn wsX2_givesUp wsX2_isBetter := goodIn_r _ [28, 19, 20, 21, 22, 23, 24, 25] (by decide +kernel) (by decide +kernel)
set_option maxRecDepth 20000 in
theorem gX2_givesUp_X2_isBetter : GoodIn wsX2_givesUp (va_wsS RX2 129 yX2_isBetter wsX2_isBetter) := goodIn_app (goodIn_of _ (by decide +kernel)) ggX2_givesUp_X2_isBetter
set_option maxRecDepth 20000 in
theorem ggX2_givesUp_X0_upholds : GoodIn wsX2_givesUp wsX0_upholds := goodIn_r _ [31, 32, 33, 4, 6, 5, 7, 8, 9, 10, 11, 12, 13, 14, 15, 16, 17, 18, 34, 35, 36, 37, 38, 39, 40, 41, 51, 52, 53, 54, 55] (by decide +kernel) (by decide +kernel)
set_option maxRecDepth 20000 in
theorem gX2_givesUp_X0_upholds_n87 : GoodIn wsX2_givesUp (wsX0_upholds) := ggX2_givesUp_X0_upholds
theorem dX2_givesUp_0 : decode cX2_givesUp 0 = .ok (.bipush (-9), 2) := by decide +kernel
theorem dX2_givesUp_2 : decode cX2_givesUp 2 = .ok (.istore_n 1, 1) := by decide +kernel
theorem dX2_givesUp_3 : decode cX2_givesUp 3 = .ok (.iconst 0, 1) := by decide +kernel
theorem dX2_givesUp_4 : decode cX2_givesUp 4 = .ok (.istore_n 2, 1) := by decide +kernel
theorem dX2_givesUp_5 : decode cX2_givesUp 5 = .ok (.iload_n 2, 1) := by decide +kernel
theorem dX2_givesUp_6 : decode cX2_givesUp 6 = .ok (.sipush 255, 3) := by decide +kernel
theorem dX2_givesUp_9 : decode cX2_givesUp 9 = .ok (.if_icmp .gt 75, 3) := by decide +kernel
theorem dX2_givesUp_12 : decode cX2_givesUp 12 = .ok (.aload_n 0, 1) := by decide +kernel
theorem dX2_givesUp_13 : decode cX2_givesUp 13 = .ok (.getfield 19, 3) := by decide +kernel
theorem dX2_givesUp_16 : decode cX2_givesUp 16 = .ok (.iload_n 2, 1) := by decide +kernel
theorem dX2_givesUp_17 : decode cX2_givesUp 17 = .ok (.aload_n 0, 1) := by decide +kernel
theorem dX2_givesUp_18 : decode cX2_givesUp 18 = .ok (.getfield 51, 3) := by decide +kernel
theorem dX2_givesUp_21 : decode cX2_givesUp 21 = .ok (.invokevirtual 126, 3) := by decide +kernel
theorem dX2_givesUp_24 : decode cX2_givesUp 24 = .ok (.istore_n 3, 1) := by decide +kernel
theorem dX2_givesUp_25 : decode cX2_givesUp 25 = .ok (.iload_n 3, 1) := by decide +kernel
theorem dX2_givesUp_26 : decode cX2_givesUp 26 = .ok (.invokestatic 118, 3) := by decide +kernel
theorem dX2_givesUp_29 : decode cX2_givesUp 29 = .ok (.iconst 3, 1) := by decide +kernel
theorem dX2_givesUp_30 : decode cX2_givesUp 30 = .ok (.if_icmp .gt 15, 3) := by decide +kernel
theorem dX2_givesUp_33 : decode cX2_givesUp 33 = .ok (.iload_n 3, 1) := by decide +kernel
theorem dX2_givesUp_34 : decode cX2_givesUp 34 = .ok (.iload_n 1, 1) := by decide +kernel
theorem dX2_givesUp_35 : decode cX2_givesUp 35 = .ok (.invokestatic 129, 3) := by decide +kernel
theorem dX2_givesUp_38 : decode cX2_givesUp 38 = .ok (.ifCond .eq 7, 3) := by decide +kernel
theorem dX2_givesUp_41 : decode cX2_givesUp 41 = .ok (.iconst 1, 1) := by decide +kernel
theorem dX2_givesUp_42 : decode cX2_givesUp 42 = .ok (.goto 4, 3) := by decide +kernel
theorem dX2_givesUp_45 : decode cX2_givesUp 45 = .ok (.iconst 0, 1) := by decide +kernel
theorem dX2_givesUp_46 : decode cX2_givesUp 46 = .ok (.istore 4, 2) := by decide +kernel
theorem dX2_givesUp_48 : decode cX2_givesUp 48 = .ok (.iload 4, 2) := by decide +kernel
theorem dX2_givesUp_50 : decode cX2_givesUp 50 = .ok (.ifCond .eq 28, 3) := by decide +kernel
theorem dX2_givesUp_53 : decode cX2_givesUp 53 = .ok (.aload_n 0, 1) := by decide +kernel
theorem dX2_givesUp_54 : decode cX2_givesUp 54 = .ok (.getfield 19, 3) := by decide +kernel
theorem dX2_givesUp_57 : decode cX2_givesUp 57 = .ok (.iload_n 2, 1) := by decide +kernel
theorem dX2_givesUp_58 : decode cX2_givesUp 58 = .ok (.aload_n 0, 1) := by decide +kernel
theorem dX2_givesUp_59 : decode cX2_givesUp 59 = .ok (.getfield 51, 3) := by decide +kernel
theorem dX2_givesUp_62 : decode cX2_givesUp 62 = .ok (.iload_n 3, 1) := by decide +kernel
theorem dX2_givesUp_63 : decode cX2_givesUp 63 = .ok (.iconst (-1), 1) := by decide +kernel
theorem dX2_givesUp_64 : decode cX2_givesUp 64 = .ok (.ixor, 1) := by decide +kernel
theorem dX2_givesUp_65 : decode cX2_givesUp 65 = .ok (.iand, 1) := by decide +kernel
theorem dX2_givesUp_66 : decode cX2_givesUp 66 = .ok (.aload_n 0, 1) := by decide +kernel
theorem dX2_givesUp_67 : decode cX2_givesUp 67 = .ok (.getfield 54, 3) := by decide +kernel
theorem dX2_givesUp_70 : decode cX2_givesUp 70 = .ok (.invokevirtual 87, 3) := by decide +kernel
theorem dX2_givesUp_73 : decode cX2_givesUp 73 = .ok (.ifCond .eq 5, 3) := by decide +kernel
theorem dX2_givesUp_76 : decode cX2_givesUp 76 = .ok (.iload_n 3, 1) := by decide +kernel
theorem dX2_givesUp_77 : decode cX2_givesUp 77 = .ok (.istore_n 1, 1) := by decide +kernel
theorem dX2_givesUp_78 : decode cX2_givesUp 78 = .ok (.iinc 2 1, 3) := by decide +kernel
theorem dX2_givesUp_81 : decode cX2_givesUp 81 = .ok (.goto (-76), 3) := by decide +kernel
theorem dX2_givesUp_84 : decode cX2_givesUp 84 = .ok (.iload_n 1, 1) := by decide +kernel
theorem dX2_givesUp_85 : decode cX2_givesUp 85 = .ok (.ireturn, 1) := by decide +kernel
set_option maxRecDepth 20000 in
theorem ggX2_idle_X2_isRule : GoodIn wsX2_idle wsX2_isRule := goodIn_r _ [7, 8, 44, 45, 46, 47, 48, 49, 50, 51, 52, 53, 54, 55, 56, 57] (by decide +kernel) (by decide +kernel)
set_option maxRecDepth 20000 in
theorem gX2_idle_X2_isRule : GoodIn wsX2_idle (wsV RX2 60 RX2 yX2_isRule wsX2_isRule) := goodIn_app (goodIn_of _ (by decide +kernel)) ggX2_idle_X2_isRule
set_option maxRecDepth 20000 in
theorem ggX2_idle_X2_bitOf : GoodIn wsX2_idle wsX2_bitOf := goodIn_r _ [11] (by decide +kernel) (by decide +kernel)
set_option maxRecDepth 20000 in
theorem gX2_idle_X2_bitOf : GoodIn wsX2_idle (va_wsS RX2 73 yX2_bitOf wsX2_bitOf) := goodIn_app (goodIn_of _ (by decide +kernel)) ggX2_idle_X2_bitOf
set_option maxRecDepth 20000 in
theorem ggX2_idle_X2_withBit : GoodIn wsX2_idle wsX2_withBit := goodIn_r _ [14] (by decide +kernel) (by decide +kernel)
set_option maxRecDepth 20000 in
theorem gX2_idle_X2_withBit : GoodIn wsX2_idle (va_wsS RX2 80 yX2_withBit wsX2_withBit) := goodIn_app (goodIn_of _ (by decide +kernel)) ggX2_idle_X2_withBit
set_option maxRecDepth 20000 in
theorem ggX2_idle_X2_sameSetsWith : GoodIn wsX2_idle wsX2_sameSetsWith := goodIn_r _ [18, 8, 1, 2, 19, 20, 21, 22, 23, 24, 25, 26, 27, 28, 29, 10, 6, 11, 30, 31, 32, 33, 34, 35, 36, 37, 38, 39, 40, 41, 42, 43, 44, 45, 46, 47, 48, 49, 50, 51, 52, 53, 54, 55, 56, 57] (by decide +kernel) (by decide +kernel)
set_option maxRecDepth 20000 in
theorem gX2_idle_X2_sameSetsWith : GoodIn wsX2_idle (wsV RX2 132 RX2 yX2_sameSetsWith wsX2_sameSetsWith) := goodIn_app (goodIn_of _ (by decide +kernel)) ggX2_idle_X2_sameSetsWith
theorem dX2_idle_0 : decode cX2_idle 0 = .ok (.aload_n 0, 1) := by decide +kernel
theorem dX2_idle_1 : decode cX2_idle 1 = .ok (.iload_n 1, 1) := by decide +kernel
theorem dX2_idle_2 : decode cX2_idle 2 = .ok (.invokevirtual 60, 3) := by decide +kernel
theorem dX2_idle_5 : decode cX2_idle 5 = .ok (.ifCond .ne 5, 3) := by decide +kernel
theorem dX2_idle_8 : decode cX2_idle 8 = .ok (.iconst (-1), 1) := by decide +kernel
theorem dX2_idle_9 : decode cX2_idle 9 = .ok (.ireturn, 1) := by decide +kernel
theorem dX2_idle_10 : decode cX2_idle 10 = .ok (.aload_n 0, 1) := by decide +kernel
theorem dX2_idle_11 : decode cX2_idle 11 = .ok (.getfield 51, 3) := by decide +kernel
theorem dX2_idle_14 : decode cX2_idle 14 = .ok (.iload_n 1, 1) := by decide +kernel
theorem dX2_idle_15 : decode cX2_idle 15 = .ok (.invokestatic 73, 3) := by decide +kernel
theorem dX2_idle_18 : decode cX2_idle 18 = .ok (.ifCond .ne 6, 3) := by decide +kernel
theorem dX2_idle_21 : decode cX2_idle 21 = .ok (.bipush (-2), 2) := by decide +kernel
theorem dX2_idle_23 : decode cX2_idle 23 = .ok (.ireturn, 1) := by decide +kernel
theorem dX2_idle_24 : decode cX2_idle 24 = .ok (.aload_n 0, 1) := by decide +kernel
theorem dX2_idle_25 : decode cX2_idle 25 = .ok (.aload_n 0, 1) := by decide +kernel
theorem dX2_idle_26 : decode cX2_idle 26 = .ok (.getfield 51, 3) := by decide +kernel
theorem dX2_idle_29 : decode cX2_idle 29 = .ok (.iload_n 1, 1) := by decide +kernel
theorem dX2_idle_30 : decode cX2_idle 30 = .ok (.iconst 0, 1) := by decide +kernel
theorem dX2_idle_31 : decode cX2_idle 31 = .ok (.invokestatic 80, 3) := by decide +kernel
theorem dX2_idle_34 : decode cX2_idle 34 = .ok (.aload_n 0, 1) := by decide +kernel
theorem dX2_idle_35 : decode cX2_idle 35 = .ok (.getfield 54, 3) := by decide +kernel
theorem dX2_idle_38 : decode cX2_idle 38 = .ok (.invokevirtual 132, 3) := by decide +kernel
theorem dX2_idle_41 : decode cX2_idle 41 = .ok (.ifCond .eq 7, 3) := by decide +kernel
theorem dX2_idle_44 : decode cX2_idle 44 = .ok (.iconst 1, 1) := by decide +kernel
theorem dX2_idle_45 : decode cX2_idle 45 = .ok (.goto 4, 3) := by decide +kernel
theorem dX2_idle_48 : decode cX2_idle 48 = .ok (.iconst 0, 1) := by decide +kernel
theorem dX2_idle_49 : decode cX2_idle 49 = .ok (.ireturn, 1) := by decide +kernel
set_option maxRecDepth 20000 in
theorem ggX2_alike_X2_isImage : GoodIn wsX2_alike wsX2_isImage := goodIn_r _ [7] (by decide +kernel) (by decide +kernel)
set_option maxRecDepth 20000 in
theorem gX2_alike_X2_isImage : GoodIn wsX2_alike (va_wsS RX2 135 yX2_isImage wsX2_isImage) := goodIn_app (goodIn_of _ (by decide +kernel)) ggX2_alike_X2_isImage
set_option maxRecDepth 20000 in
theorem ggX2_alike_X2_bitOf : GoodIn wsX2_alike wsX2_bitOf := goodIn_r _ [10] (by decide +kernel) (by decide +kernel)
set_option maxRecDepth 20000 in
theorem gX2_alike_X2_bitOf : GoodIn wsX2_alike (va_wsS RX2 73 yX2_bitOf wsX2_bitOf) := goodIn_app (goodIn_of _ (by decide +kernel)) ggX2_alike_X2_bitOf
set_option maxRecDepth 20000 in
theorem ggX2_alike_X2_sameSetsWith : GoodIn wsX2_alike wsX2_sameSetsWith := goodIn_r _ [14, 15, 16, 17, 18, 19, 20, 21, 22, 23, 24, 25, 26, 27, 28, 9, 6, 10, 29, 30, 31, 32, 33, 34, 35, 36, 37, 38, 39, 40, 41, 42, 43, 44, 45, 46, 47, 48, 49, 50, 51, 52, 53, 54, 55, 56] (by decide +kernel) (by decide +kernel)
set_option maxRecDepth 20000 in
theorem gX2_alike_X2_sameSetsWith : GoodIn wsX2_alike (wsV RX2 132 RX2 yX2_sameSetsWith wsX2_sameSetsWith) := goodIn_app (goodIn_of _ (by decide +kernel)) ggX2_alike_X2_sameSetsWith
theorem dX2_alike_0 : decode cX2_alike 0 = .ok (.iload_n 1, 1) := by decide +kernel
theorem dX2_alike_1 : decode cX2_alike 1 = .ok (.invokestatic 135, 3) := by decide +kernel
theorem dX2_alike_4 : decode cX2_alike 4 = .ok (.ifCond .ne 5, 3) := by decide +kernel
theorem dX2_alike_7 : decode cX2_alike 7 = .ok (.iconst (-1), 1) := by decide +kernel
theorem dX2_alike_8 : decode cX2_alike 8 = .ok (.ireturn, 1) := by decide +kernel
theorem dX2_alike_9 : decode cX2_alike 9 = .ok (.aload_n 0, 1) := by decide +kernel
theorem dX2_alike_10 : decode cX2_alike 10 = .ok (.getfield 57, 3) := by decide +kernel
theorem dX2_alike_13 : decode cX2_alike 13 = .ok (.iload_n 1, 1) := by decide +kernel
theorem dX2_alike_14 : decode cX2_alike 14 = .ok (.invokestatic 73, 3) := by decide +kernel
theorem dX2_alike_17 : decode cX2_alike 17 = .ok (.ifCond .ne 6, 3) := by decide +kernel
theorem dX2_alike_20 : decode cX2_alike 20 = .ok (.bipush (-2), 2) := by decide +kernel
theorem dX2_alike_22 : decode cX2_alike 22 = .ok (.ireturn, 1) := by decide +kernel
theorem dX2_alike_23 : decode cX2_alike 23 = .ok (.aload_n 0, 1) := by decide +kernel
theorem dX2_alike_24 : decode cX2_alike 24 = .ok (.aload_n 0, 1) := by decide +kernel
theorem dX2_alike_25 : decode cX2_alike 25 = .ok (.getfield 26, 3) := by decide +kernel
theorem dX2_alike_28 : decode cX2_alike 28 = .ok (.iload_n 1, 1) := by decide +kernel
theorem dX2_alike_29 : decode cX2_alike 29 = .ok (.iaload, 1) := by decide +kernel
theorem dX2_alike_30 : decode cX2_alike 30 = .ok (.aload_n 0, 1) := by decide +kernel
theorem dX2_alike_31 : decode cX2_alike 31 = .ok (.getfield 30, 3) := by decide +kernel
theorem dX2_alike_34 : decode cX2_alike 34 = .ok (.iload_n 1, 1) := by decide +kernel
theorem dX2_alike_35 : decode cX2_alike 35 = .ok (.iaload, 1) := by decide +kernel
theorem dX2_alike_36 : decode cX2_alike 36 = .ok (.invokevirtual 132, 3) := by decide +kernel
theorem dX2_alike_39 : decode cX2_alike 39 = .ok (.ifCond .eq 7, 3) := by decide +kernel
theorem dX2_alike_42 : decode cX2_alike 42 = .ok (.iconst 1, 1) := by decide +kernel
theorem dX2_alike_43 : decode cX2_alike 43 = .ok (.goto 4, 3) := by decide +kernel
theorem dX2_alike_46 : decode cX2_alike 46 = .ok (.iconst 0, 1) := by decide +kernel
theorem dX2_alike_47 : decode cX2_alike 47 = .ok (.ireturn, 1) := by decide +kernel
set_option maxRecDepth 20000 in
theorem ggX2_mark_X2_isRule : GoodIn wsX2_mark wsX2_isRule := goodIn_r _ [6, 7, 49, 50, 51, 52, 53, 54, 55, 56, 57, 58, 59, 60, 61, 62] (by decide +kernel) (by decide +kernel)
set_option maxRecDepth 20000 in
theorem gX2_mark_X2_isRule : GoodIn wsX2_mark (wsV RX2 60 RX2 yX2_isRule wsX2_isRule) := goodIn_app (goodIn_of _ (by decide +kernel)) ggX2_mark_X2_isRule
set_option maxRecDepth 20000 in
theorem ggX2_mark_X2_markOfRule : GoodIn wsX2_mark wsX2_markOfRule := goodIn_r _ [11, 12, 7, 13, 14, 15, 16, 17, 18, 19, 49, 50, 51, 52, 53, 54, 55, 56, 57, 58, 59, 60, 61, 62] (by decide +kernel) (by decide +kernel)
set_option maxRecDepth 20000 in
theorem gX2_mark_X2_markOfRule : GoodIn wsX2_mark (wsV RX2 139 RX2 yX2_markOfRule wsX2_markOfRule) := goodIn_app (goodIn_of _ (by decide +kernel)) ggX2_mark_X2_markOfRule
set_option maxRecDepth 20000 in
theorem ggX2_mark_X2_markOfLaw : GoodIn wsX2_mark wsX2_markOfLaw := goodIn_r _ [23, 12, 24, 8, 9, 10, 5, 11, 7, 13, 14, 15, 16, 17, 18, 19, 49, 50, 51, 52, 53, 54, 55, 56, 57, 58, 59, 60, 61, 62] (by decide +kernel) (by decide +kernel)
set_option maxRecDepth 20000 in
theorem gX2_mark_X2_markOfLaw : GoodIn wsX2_mark (wsV RX2 142 RX2 yX2_markOfLaw wsX2_markOfLaw) := goodIn_app (goodIn_of _ (by decide +kernel)) ggX2_mark_X2_markOfLaw
set_option maxRecDepth 20000 in
theorem ggX2_mark_X2_markOfHabit : GoodIn wsX2_mark wsX2_markOfHabit := goodIn_r _ [28, 12, 29, 7, 8, 9, 10, 5, 11, 13, 14, 15, 16, 17, 18, 19, 49, 50, 51, 52, 53, 54, 55, 56, 57, 58, 59, 60, 61, 62] (by decide +kernel) (by decide +kernel)
set_option maxRecDepth 20000 in
theorem gX2_mark_X2_markOfHabit : GoodIn wsX2_mark (wsV RX2 145 RX2 yX2_markOfHabit wsX2_markOfHabit) := goodIn_app (goodIn_of _ (by decide +kernel)) ggX2_mark_X2_markOfHabit
set_option maxRecDepth 20000 in
theorem ggX2_mark_X2_markOfDecree : GoodIn wsX2_mark wsX2_markOfDecree := goodIn_r _ [33, 12, 34, 20, 21, 22, 5, 23, 24, 8, 9, 10, 11, 7, 13, 14, 15, 16, 17, 18, 19, 49, 50, 51, 52, 53, 54, 55, 56, 57, 58, 59, 60, 61, 62] (by decide +kernel) (by decide +kernel)
set_option maxRecDepth 20000 in
theorem gX2_mark_X2_markOfDecree : GoodIn wsX2_mark (wsV RX2 148 RX2 yX2_markOfDecree wsX2_markOfDecree) := goodIn_app (goodIn_of _ (by decide +kernel)) ggX2_mark_X2_markOfDecree
set_option maxRecDepth 20000 in
theorem ggX2_mark_X2_markOfCustom : GoodIn wsX2_mark wsX2_markOfCustom := goodIn_r _ [38, 12, 39, 40, 25, 26, 27, 5, 28, 29, 7, 8, 9, 10, 11, 13, 14, 15, 16, 17, 18, 19, 41, 42, 43, 49, 50, 51, 52, 53, 54, 55, 56, 57, 58, 59, 60, 61, 62] (by decide +kernel) (by decide +kernel)
set_option maxRecDepth 20000 in
theorem gX2_mark_X2_markOfCustom : GoodIn wsX2_mark (wsV RX2 151 RX2 yX2_markOfCustom wsX2_markOfCustom) := goodIn_app (goodIn_of _ (by decide +kernel)) ggX2_mark_X2_markOfCustom
set_option maxRecDepth 20000 in
theorem ggX2_mark_X2_markOfOath : GoodIn wsX2_mark wsX2_markOfOath := goodIn_r _ [47, 12, 48, 7, 8, 9, 10, 5, 11, 13, 14, 15, 16, 17, 18, 19, 49, 50, 51, 52, 53, 54, 55, 56, 57, 58, 59, 60, 61, 62] (by decide +kernel) (by decide +kernel)
set_option maxRecDepth 20000 in
theorem gX2_mark_X2_markOfOath : GoodIn wsX2_mark (wsV RX2 154 RX2 yX2_markOfOath wsX2_markOfOath) := goodIn_app (goodIn_of _ (by decide +kernel)) ggX2_mark_X2_markOfOath
theorem dX2_mark_0 : decode cX2_mark 0 = .ok (.aload_n 0, 1) := by decide +kernel
theorem dX2_mark_1 : decode cX2_mark 1 = .ok (.iload_n 2, 1) := by decide +kernel
theorem dX2_mark_2 : decode cX2_mark 2 = .ok (.invokevirtual 60, 3) := by decide +kernel
theorem dX2_mark_5 : decode cX2_mark 5 = .ok (.ifCond .ne 6, 3) := by decide +kernel
theorem dX2_mark_8 : decode cX2_mark 8 = .ok (.ldc 138, 2) := by decide +kernel
theorem dX2_mark_10 : decode cX2_mark 10 = .ok (.ireturn, 1) := by decide +kernel
theorem dX2_mark_11 : decode cX2_mark 11 = .ok (.iload_n 1, 1) := by decide +kernel
theorem dX2_mark_12 : decode cX2_mark 12 = .ok (.tableswitch 76 0 5 #[40, 46, 52, 58, 64, 70], 40) := by decide +kernel
theorem dX2_mark_52 : decode cX2_mark 52 = .ok (.aload_n 0, 1) := by decide +kernel
theorem dX2_mark_53 : decode cX2_mark 53 = .ok (.iload_n 2, 1) := by decide +kernel
theorem dX2_mark_54 : decode cX2_mark 54 = .ok (.invokevirtual 139, 3) := by decide +kernel
theorem dX2_mark_57 : decode cX2_mark 57 = .ok (.ireturn, 1) := by decide +kernel
theorem dX2_mark_58 : decode cX2_mark 58 = .ok (.aload_n 0, 1) := by decide +kernel
theorem dX2_mark_59 : decode cX2_mark 59 = .ok (.iload_n 2, 1) := by decide +kernel
theorem dX2_mark_60 : decode cX2_mark 60 = .ok (.invokevirtual 142, 3) := by decide +kernel
theorem dX2_mark_63 : decode cX2_mark 63 = .ok (.ireturn, 1) := by decide +kernel
theorem dX2_mark_64 : decode cX2_mark 64 = .ok (.aload_n 0, 1) := by decide +kernel
theorem dX2_mark_65 : decode cX2_mark 65 = .ok (.iload_n 2, 1) := by decide +kernel
theorem dX2_mark_66 : decode cX2_mark 66 = .ok (.invokevirtual 145, 3) := by decide +kernel
theorem dX2_mark_69 : decode cX2_mark 69 = .ok (.ireturn, 1) := by decide +kernel
theorem dX2_mark_70 : decode cX2_mark 70 = .ok (.aload_n 0, 1) := by decide +kernel
theorem dX2_mark_71 : decode cX2_mark 71 = .ok (.iload_n 2, 1) := by decide +kernel
theorem dX2_mark_72 : decode cX2_mark 72 = .ok (.invokevirtual 148, 3) := by decide +kernel
theorem dX2_mark_75 : decode cX2_mark 75 = .ok (.ireturn, 1) := by decide +kernel
theorem dX2_mark_76 : decode cX2_mark 76 = .ok (.aload_n 0, 1) := by decide +kernel
theorem dX2_mark_77 : decode cX2_mark 77 = .ok (.iload_n 2, 1) := by decide +kernel
theorem dX2_mark_78 : decode cX2_mark 78 = .ok (.invokevirtual 151, 3) := by decide +kernel
theorem dX2_mark_81 : decode cX2_mark 81 = .ok (.ireturn, 1) := by decide +kernel
theorem dX2_mark_82 : decode cX2_mark 82 = .ok (.aload_n 0, 1) := by decide +kernel
theorem dX2_mark_83 : decode cX2_mark 83 = .ok (.iload_n 2, 1) := by decide +kernel
theorem dX2_mark_84 : decode cX2_mark 84 = .ok (.invokevirtual 154, 3) := by decide +kernel
theorem dX2_mark_87 : decode cX2_mark 87 = .ok (.ireturn, 1) := by decide +kernel
theorem dX2_mark_88 : decode cX2_mark 88 = .ok (.ldc 138, 2) := by decide +kernel
theorem dX2_mark_90 : decode cX2_mark 90 = .ok (.ireturn, 1) := by decide +kernel
set_option maxRecDepth 20000 in
theorem ggX2_keep_X2_isImage : GoodIn wsX2_keep wsX2_isImage := goodIn_r _ [9] (by decide +kernel) (by decide +kernel)
set_option maxRecDepth 20000 in
theorem gX2_keep_X2_isImage : GoodIn wsX2_keep (va_wsS RX2 135 yX2_isImage wsX2_isImage) := goodIn_app (goodIn_of _ (by decide +kernel)) ggX2_keep_X2_isImage
set_option maxRecDepth 20000 in
theorem ggX2_keep_J6_bitCount_0f7a4 : GoodIn wsX2_keep wsJ6_bitCount_0f7a4 := goodIn_r _ [13, 14, 15, 16] (by decide +kernel) (by decide +kernel)
set_option maxRecDepth 20000 in
theorem gX2_keep_J6_bitCount_0f7a4 : GoodIn wsX2_keep (va_wsS RX2 118 yJ6_bitCount_0f7a4 wsJ6_bitCount_0f7a4) := goodIn_app (goodIn_of _ (by decide +kernel)) ggX2_keep_J6_bitCount_0f7a4
theorem dX2_keep_0 : decode cX2_keep 0 = .ok (.iload_n 1, 1) := by decide +kernel
theorem dX2_keep_1 : decode cX2_keep 1 = .ok (.invokestatic 135, 3) := by decide +kernel
theorem dX2_keep_4 : decode cX2_keep 4 = .ok (.ifCond .ne 5, 3) := by decide +kernel
theorem dX2_keep_7 : decode cX2_keep 7 = .ok (.iconst (-1), 1) := by decide +kernel
theorem dX2_keep_8 : decode cX2_keep 8 = .ok (.ireturn, 1) := by decide +kernel
theorem dX2_keep_9 : decode cX2_keep 9 = .ok (.aload_n 0, 1) := by decide +kernel
theorem dX2_keep_10 : decode cX2_keep 10 = .ok (.getfield 26, 3) := by decide +kernel
theorem dX2_keep_13 : decode cX2_keep 13 = .ok (.iload_n 1, 1) := by decide +kernel
theorem dX2_keep_14 : decode cX2_keep 14 = .ok (.aload_n 0, 1) := by decide +kernel
theorem dX2_keep_15 : decode cX2_keep 15 = .ok (.getfield 51, 3) := by decide +kernel
theorem dX2_keep_18 : decode cX2_keep 18 = .ok (.iastore, 1) := by decide +kernel
theorem dX2_keep_19 : decode cX2_keep 19 = .ok (.aload_n 0, 1) := by decide +kernel
theorem dX2_keep_20 : decode cX2_keep 20 = .ok (.getfield 30, 3) := by decide +kernel
theorem dX2_keep_23 : decode cX2_keep 23 = .ok (.iload_n 1, 1) := by decide +kernel
theorem dX2_keep_24 : decode cX2_keep 24 = .ok (.aload_n 0, 1) := by decide +kernel
theorem dX2_keep_25 : decode cX2_keep 25 = .ok (.getfield 54, 3) := by decide +kernel
theorem dX2_keep_28 : decode cX2_keep 28 = .ok (.iastore, 1) := by decide +kernel
theorem dX2_keep_29 : decode cX2_keep 29 = .ok (.aload_n 0, 1) := by decide +kernel
theorem dX2_keep_30 : decode cX2_keep 30 = .ok (.dup, 1) := by decide +kernel
theorem dX2_keep_31 : decode cX2_keep 31 = .ok (.getfield 57, 3) := by decide +kernel
theorem dX2_keep_34 : decode cX2_keep 34 = .ok (.iconst 1, 1) := by decide +kernel
theorem dX2_keep_35 : decode cX2_keep 35 = .ok (.iload_n 1, 1) := by decide +kernel
theorem dX2_keep_36 : decode cX2_keep 36 = .ok (.ishl, 1) := by decide +kernel
theorem dX2_keep_37 : decode cX2_keep 37 = .ok (.ior, 1) := by decide +kernel
theorem dX2_keep_38 : decode cX2_keep 38 = .ok (.putfield 57, 3) := by decide +kernel
theorem dX2_keep_41 : decode cX2_keep 41 = .ok (.aload_n 0, 1) := by decide +kernel
theorem dX2_keep_42 : decode cX2_keep 42 = .ok (.getfield 51, 3) := by decide +kernel
theorem dX2_keep_45 : decode cX2_keep 45 = .ok (.invokestatic 118, 3) := by decide +kernel
theorem dX2_keep_48 : decode cX2_keep 48 = .ok (.ireturn, 1) := by decide +kernel
set_option maxRecDepth 20000 in
theorem ggX2_back_X2_isImage : GoodIn wsX2_back wsX2_isImage := goodIn_r _ [9] (by decide +kernel) (by decide +kernel)
set_option maxRecDepth 20000 in
theorem gX2_back_X2_isImage : GoodIn wsX2_back (va_wsS RX2 135 yX2_isImage wsX2_isImage) := goodIn_app (goodIn_of _ (by decide +kernel)) ggX2_back_X2_isImage
set_option maxRecDepth 20000 in
theorem ggX2_back_X2_bitOf : GoodIn wsX2_back wsX2_bitOf := goodIn_r _ [12] (by decide +kernel) (by decide +kernel)
set_option maxRecDepth 20000 in
theorem gX2_back_X2_bitOf : GoodIn wsX2_back (va_wsS RX2 73 yX2_bitOf wsX2_bitOf) := goodIn_app (goodIn_of _ (by decide +kernel)) ggX2_back_X2_bitOf
set_option maxRecDepth 20000 in
theorem ggX2_back_J6_bitCount_0f7a4 : GoodIn wsX2_back wsJ6_bitCount_0f7a4 := goodIn_r _ [16, 17, 18, 19] (by decide +kernel) (by decide +kernel)
set_option maxRecDepth 20000 in
theorem gX2_back_J6_bitCount_0f7a4 : GoodIn wsX2_back (va_wsS RX2 118 yJ6_bitCount_0f7a4 wsJ6_bitCount_0f7a4) := goodIn_app (goodIn_of _ (by decide +kernel)) ggX2_back_J6_bitCount_0f7a4
theorem dX2_back_0 : decode cX2_back 0 = .ok (.iload_n 1, 1) := by decide +kernel
theorem dX2_back_1 : decode cX2_back 1 = .ok (.invokestatic 135, 3) := by decide +kernel
theorem dX2_back_4 : decode cX2_back 4 = .ok (.ifCond .ne 5, 3) := by decide +kernel
theorem dX2_back_7 : decode cX2_back 7 = .ok (.iconst (-1), 1) := by decide +kernel
theorem dX2_back_8 : decode cX2_back 8 = .ok (.ireturn, 1) := by decide +kernel
theorem dX2_back_9 : decode cX2_back 9 = .ok (.aload_n 0, 1) := by decide +kernel
theorem dX2_back_10 : decode cX2_back 10 = .ok (.getfield 57, 3) := by decide +kernel
theorem dX2_back_13 : decode cX2_back 13 = .ok (.iload_n 1, 1) := by decide +kernel
theorem dX2_back_14 : decode cX2_back 14 = .ok (.invokestatic 73, 3) := by decide +kernel
theorem dX2_back_17 : decode cX2_back 17 = .ok (.ifCond .ne 6, 3) := by decide +kernel
theorem dX2_back_20 : decode cX2_back 20 = .ok (.bipush (-2), 2) := by decide +kernel
theorem dX2_back_22 : decode cX2_back 22 = .ok (.ireturn, 1) := by decide +kernel
theorem dX2_back_23 : decode cX2_back 23 = .ok (.aload_n 0, 1) := by decide +kernel
theorem dX2_back_24 : decode cX2_back 24 = .ok (.aload_n 0, 1) := by decide +kernel
theorem dX2_back_25 : decode cX2_back 25 = .ok (.getfield 26, 3) := by decide +kernel
theorem dX2_back_28 : decode cX2_back 28 = .ok (.iload_n 1, 1) := by decide +kernel
theorem dX2_back_29 : decode cX2_back 29 = .ok (.iaload, 1) := by decide +kernel
theorem dX2_back_30 : decode cX2_back 30 = .ok (.putfield 51, 3) := by decide +kernel
theorem dX2_back_33 : decode cX2_back 33 = .ok (.aload_n 0, 1) := by decide +kernel
theorem dX2_back_34 : decode cX2_back 34 = .ok (.aload_n 0, 1) := by decide +kernel
theorem dX2_back_35 : decode cX2_back 35 = .ok (.getfield 30, 3) := by decide +kernel
theorem dX2_back_38 : decode cX2_back 38 = .ok (.iload_n 1, 1) := by decide +kernel
theorem dX2_back_39 : decode cX2_back 39 = .ok (.iaload, 1) := by decide +kernel
theorem dX2_back_40 : decode cX2_back 40 = .ok (.putfield 54, 3) := by decide +kernel
theorem dX2_back_43 : decode cX2_back 43 = .ok (.aload_n 0, 1) := by decide +kernel
theorem dX2_back_44 : decode cX2_back 44 = .ok (.getfield 51, 3) := by decide +kernel
theorem dX2_back_47 : decode cX2_back 47 = .ok (.invokestatic 118, 3) := by decide +kernel
theorem dX2_back_50 : decode cX2_back 50 = .ok (.ireturn, 1) := by decide +kernel
set_option maxRecDepth 20000 in
theorem ggX2_count_J6_bitCount_0f7a4 : GoodIn wsX2_count wsJ6_bitCount_0f7a4 := goodIn_r _ [8, 9, 10, 11] (by decide +kernel) (by decide +kernel)
set_option maxRecDepth 20000 in
theorem gX2_count_J6_bitCount_0f7a4 : GoodIn wsX2_count (va_wsS RX2 118 yJ6_bitCount_0f7a4 wsJ6_bitCount_0f7a4) := goodIn_app (goodIn_of _ (by decide +kernel)) ggX2_count_J6_bitCount_0f7a4
theorem dX2_count_0 : decode cX2_count 0 = .ok (.iload_n 1, 1) := by decide +kernel
theorem dX2_count_1 : decode cX2_count 1 = .ok (.tableswitch 72 0 4 #[35, 43, 51, 59, 64], 35) := by decide +kernel
theorem dX2_count_36 : decode cX2_count 36 = .ok (.aload_n 0, 1) := by decide +kernel
theorem dX2_count_37 : decode cX2_count 37 = .ok (.getfield 19, 3) := by decide +kernel
theorem dX2_count_40 : decode cX2_count 40 = .ok (.getfield 48, 3) := by decide +kernel
theorem dX2_count_43 : decode cX2_count 43 = .ok (.ireturn, 1) := by decide +kernel
theorem dX2_count_44 : decode cX2_count 44 = .ok (.aload_n 0, 1) := by decide +kernel
theorem dX2_count_45 : decode cX2_count 45 = .ok (.getfield 51, 3) := by decide +kernel
theorem dX2_count_48 : decode cX2_count 48 = .ok (.invokestatic 118, 3) := by decide +kernel
theorem dX2_count_51 : decode cX2_count 51 = .ok (.ireturn, 1) := by decide +kernel
theorem dX2_count_52 : decode cX2_count 52 = .ok (.aload_n 0, 1) := by decide +kernel
theorem dX2_count_53 : decode cX2_count 53 = .ok (.getfield 19, 3) := by decide +kernel
theorem dX2_count_56 : decode cX2_count 56 = .ok (.getfield 101, 3) := by decide +kernel
theorem dX2_count_59 : decode cX2_count 59 = .ok (.ireturn, 1) := by decide +kernel
theorem dX2_count_60 : decode cX2_count 60 = .ok (.aload_n 0, 1) := by decide +kernel
theorem dX2_count_61 : decode cX2_count 61 = .ok (.getfield 54, 3) := by decide +kernel
theorem dX2_count_64 : decode cX2_count 64 = .ok (.ireturn, 1) := by decide +kernel
theorem dX2_count_65 : decode cX2_count 65 = .ok (.aload_n 0, 1) := by decide +kernel
theorem dX2_count_66 : decode cX2_count 66 = .ok (.getfield 10, 3) := by decide +kernel
theorem dX2_count_69 : decode cX2_count 69 = .ok (.getfield 33, 3) := by decide +kernel
theorem dX2_count_72 : decode cX2_count 72 = .ok (.ireturn, 1) := by decide +kernel
theorem dX2_count_73 : decode cX2_count 73 = .ok (.iconst (-1), 1) := by decide +kernel
theorem dX2_count_74 : decode cX2_count 74 = .ok (.ireturn, 1) := by decide +kernel
theorem dX2_trace_0 : decode cX2_trace 0 = .ok (.aload_n 0, 1) := by decide +kernel
theorem dX2_trace_1 : decode cX2_trace 1 = .ok (.getfield 157, 3) := by decide +kernel
theorem dX2_trace_4 : decode cX2_trace 4 = .ok (.lreturn, 1) := by decide +kernel
theorem dX2_isRule_0 : decode cX2_isRule 0 = .ok (.iload_n 1, 1) := by decide +kernel
theorem dX2_isRule_1 : decode cX2_isRule 1 = .ok (.ifCond .lt 18, 3) := by decide +kernel
theorem dX2_isRule_4 : decode cX2_isRule 4 = .ok (.iload_n 1, 1) := by decide +kernel
theorem dX2_isRule_5 : decode cX2_isRule 5 = .ok (.aload_n 0, 1) := by decide +kernel
theorem dX2_isRule_6 : decode cX2_isRule 6 = .ok (.getfield 19, 3) := by decide +kernel
theorem dX2_isRule_9 : decode cX2_isRule 9 = .ok (.getfield 48, 3) := by decide +kernel
theorem dX2_isRule_12 : decode cX2_isRule 12 = .ok (.if_icmp .ge 7, 3) := by decide +kernel
theorem dX2_isRule_15 : decode cX2_isRule 15 = .ok (.iconst 1, 1) := by decide +kernel
theorem dX2_isRule_16 : decode cX2_isRule 16 = .ok (.goto 4, 3) := by decide +kernel
theorem dX2_isRule_19 : decode cX2_isRule 19 = .ok (.iconst 0, 1) := by decide +kernel
theorem dX2_isRule_20 : decode cX2_isRule 20 = .ok (.ireturn, 1) := by decide +kernel
theorem dX2_isSet_0 : decode cX2_isSet 0 = .ok (.iload_n 0, 1) := by decide +kernel
theorem dX2_isSet_1 : decode cX2_isSet 1 = .ok (.ifCond .lt 14, 3) := by decide +kernel
theorem dX2_isSet_4 : decode cX2_isSet 4 = .ok (.iload_n 0, 1) := by decide +kernel
theorem dX2_isSet_5 : decode cX2_isSet 5 = .ok (.sipush 255, 3) := by decide +kernel
theorem dX2_isSet_8 : decode cX2_isSet 8 = .ok (.if_icmp .gt 7, 3) := by decide +kernel
theorem dX2_isSet_11 : decode cX2_isSet 11 = .ok (.iconst 1, 1) := by decide +kernel
theorem dX2_isSet_12 : decode cX2_isSet 12 = .ok (.goto 4, 3) := by decide +kernel
theorem dX2_isSet_15 : decode cX2_isSet 15 = .ok (.iconst 0, 1) := by decide +kernel
theorem dX2_isSet_16 : decode cX2_isSet 16 = .ok (.ireturn, 1) := by decide +kernel
theorem dX2_isImage_0 : decode cX2_isImage 0 = .ok (.iload_n 0, 1) := by decide +kernel
theorem dX2_isImage_1 : decode cX2_isImage 1 = .ok (.ifCond .lt 12, 3) := by decide +kernel
theorem dX2_isImage_4 : decode cX2_isImage 4 = .ok (.iload_n 0, 1) := by decide +kernel
theorem dX2_isImage_5 : decode cX2_isImage 5 = .ok (.iconst 2, 1) := by decide +kernel
theorem dX2_isImage_6 : decode cX2_isImage 6 = .ok (.if_icmp .ge 7, 3) := by decide +kernel
theorem dX2_isImage_9 : decode cX2_isImage 9 = .ok (.iconst 1, 1) := by decide +kernel
theorem dX2_isImage_10 : decode cX2_isImage 10 = .ok (.goto 4, 3) := by decide +kernel
theorem dX2_isImage_13 : decode cX2_isImage 13 = .ok (.iconst 0, 1) := by decide +kernel
theorem dX2_isImage_14 : decode cX2_isImage 14 = .ok (.ireturn, 1) := by decide +kernel
theorem dX2_isBit_0 : decode cX2_isBit 0 = .ok (.iload_n 0, 1) := by decide +kernel
theorem dX2_isBit_1 : decode cX2_isBit 1 = .ok (.ifCond .eq 8, 3) := by decide +kernel
theorem dX2_isBit_4 : decode cX2_isBit 4 = .ok (.iload_n 0, 1) := by decide +kernel
theorem dX2_isBit_5 : decode cX2_isBit 5 = .ok (.iconst 1, 1) := by decide +kernel
theorem dX2_isBit_6 : decode cX2_isBit 6 = .ok (.if_icmp .ne 7, 3) := by decide +kernel
theorem dX2_isBit_9 : decode cX2_isBit 9 = .ok (.iconst 1, 1) := by decide +kernel
theorem dX2_isBit_10 : decode cX2_isBit 10 = .ok (.goto 4, 3) := by decide +kernel
theorem dX2_isBit_13 : decode cX2_isBit 13 = .ok (.iconst 0, 1) := by decide +kernel
theorem dX2_isBit_14 : decode cX2_isBit 14 = .ok (.ireturn, 1) := by decide +kernel
theorem dX2_withBit_0 : decode cX2_withBit 0 = .ok (.iload_n 0, 1) := by decide +kernel
theorem dX2_withBit_1 : decode cX2_withBit 1 = .ok (.iconst 1, 1) := by decide +kernel
theorem dX2_withBit_2 : decode cX2_withBit 2 = .ok (.iload_n 1, 1) := by decide +kernel
theorem dX2_withBit_3 : decode cX2_withBit 3 = .ok (.ishl, 1) := by decide +kernel
theorem dX2_withBit_4 : decode cX2_withBit 4 = .ok (.iconst (-1), 1) := by decide +kernel
theorem dX2_withBit_5 : decode cX2_withBit 5 = .ok (.ixor, 1) := by decide +kernel
theorem dX2_withBit_6 : decode cX2_withBit 6 = .ok (.iand, 1) := by decide +kernel
theorem dX2_withBit_7 : decode cX2_withBit 7 = .ok (.iload_n 2, 1) := by decide +kernel
theorem dX2_withBit_8 : decode cX2_withBit 8 = .ok (.iload_n 1, 1) := by decide +kernel
theorem dX2_withBit_9 : decode cX2_withBit 9 = .ok (.ishl, 1) := by decide +kernel
theorem dX2_withBit_10 : decode cX2_withBit 10 = .ok (.ior, 1) := by decide +kernel
theorem dX2_withBit_11 : decode cX2_withBit 11 = .ok (.ireturn, 1) := by decide +kernel
set_option maxRecDepth 20000 in
theorem ggX2_isBetter_J6_bitCount_0f7a4 : GoodIn wsX2_isBetter wsJ6_bitCount_0f7a4 := goodIn_r _ [4, 5, 6, 7] (by decide +kernel) (by decide +kernel)
set_option maxRecDepth 20000 in
theorem gX2_isBetter_J6_bitCount_0f7a4 : GoodIn wsX2_isBetter (va_wsS RX2 118 yJ6_bitCount_0f7a4 wsJ6_bitCount_0f7a4) := goodIn_app (goodIn_of _ (by decide +kernel)) ggX2_isBetter_J6_bitCount_0f7a4
theorem dX2_isBetter_0 : decode cX2_isBetter 0 = .ok (.iload_n 1, 1) := by decide +kernel
theorem dX2_isBetter_1 : decode cX2_isBetter 1 = .ok (.bipush (-9), 2) := by decide +kernel
theorem dX2_isBetter_3 : decode cX2_isBetter 3 = .ok (.if_icmp .ne 5, 3) := by decide +kernel
theorem dX2_isBetter_6 : decode cX2_isBetter 6 = .ok (.iconst 1, 1) := by decide +kernel
theorem dX2_isBetter_7 : decode cX2_isBetter 7 = .ok (.ireturn, 1) := by decide +kernel
theorem dX2_isBetter_8 : decode cX2_isBetter 8 = .ok (.iload_n 0, 1) := by decide +kernel
theorem dX2_isBetter_9 : decode cX2_isBetter 9 = .ok (.invokestatic 118, 3) := by decide +kernel
theorem dX2_isBetter_12 : decode cX2_isBetter 12 = .ok (.iload_n 1, 1) := by decide +kernel
theorem dX2_isBetter_13 : decode cX2_isBetter 13 = .ok (.invokestatic 118, 3) := by decide +kernel
theorem dX2_isBetter_16 : decode cX2_isBetter 16 = .ok (.isub, 1) := by decide +kernel
theorem dX2_isBetter_17 : decode cX2_isBetter 17 = .ok (.istore_n 2, 1) := by decide +kernel
theorem dX2_isBetter_18 : decode cX2_isBetter 18 = .ok (.iload_n 2, 1) := by decide +kernel
theorem dX2_isBetter_19 : decode cX2_isBetter 19 = .ok (.ifCond .lt 12, 3) := by decide +kernel
theorem dX2_isBetter_22 : decode cX2_isBetter 22 = .ok (.iload_n 2, 1) := by decide +kernel
theorem dX2_isBetter_23 : decode cX2_isBetter 23 = .ok (.ifCond .ne 12, 3) := by decide +kernel
theorem dX2_isBetter_26 : decode cX2_isBetter 26 = .ok (.iload_n 0, 1) := by decide +kernel
theorem dX2_isBetter_27 : decode cX2_isBetter 27 = .ok (.iload_n 1, 1) := by decide +kernel
theorem dX2_isBetter_28 : decode cX2_isBetter 28 = .ok (.if_icmp .ge 7, 3) := by decide +kernel
theorem dX2_isBetter_31 : decode cX2_isBetter 31 = .ok (.iconst 1, 1) := by decide +kernel
theorem dX2_isBetter_32 : decode cX2_isBetter 32 = .ok (.goto 4, 3) := by decide +kernel
theorem dX2_isBetter_35 : decode cX2_isBetter 35 = .ok (.iconst 0, 1) := by decide +kernel
theorem dX2_isBetter_36 : decode cX2_isBetter 36 = .ok (.ireturn, 1) := by decide +kernel
set_option maxRecDepth 20000 in
theorem ggX2_standingSet_X0_upholds : GoodIn wsX2_standingSet wsX0_upholds := goodIn_r _ [7, 8, 9, 10, 11, 5, 12, 13, 14, 15, 16, 17, 18, 19, 20, 21, 22, 23, 24, 25, 26, 27, 28, 29, 30, 31, 41, 42, 43, 44, 45] (by decide +kernel) (by decide +kernel)
set_option maxRecDepth 20000 in
theorem gX2_standingSet_X0_upholds_n87 : GoodIn wsX2_standingSet (wsX0_upholds) := ggX2_standingSet_X0_upholds
theorem dX2_standingSet_0 : decode cX2_standingSet 0 = .ok (.iconst 0, 1) := by decide +kernel
theorem dX2_standingSet_1 : decode cX2_standingSet 1 = .ok (.istore_n 2, 1) := by decide +kernel
theorem dX2_standingSet_2 : decode cX2_standingSet 2 = .ok (.iconst 0, 1) := by decide +kernel
theorem dX2_standingSet_3 : decode cX2_standingSet 3 = .ok (.istore_n 3, 1) := by decide +kernel
theorem dX2_standingSet_4 : decode cX2_standingSet 4 = .ok (.iload_n 3, 1) := by decide +kernel
theorem dX2_standingSet_5 : decode cX2_standingSet 5 = .ok (.sipush 255, 3) := by decide +kernel
theorem dX2_standingSet_8 : decode cX2_standingSet 8 = .ok (.if_icmp .gt 38, 3) := by decide +kernel
theorem dX2_standingSet_11 : decode cX2_standingSet 11 = .ok (.aload_n 0, 1) := by decide +kernel
theorem dX2_standingSet_12 : decode cX2_standingSet 12 = .ok (.getfield 19, 3) := by decide +kernel
theorem dX2_standingSet_15 : decode cX2_standingSet 15 = .ok (.iload_n 3, 1) := by decide +kernel
theorem dX2_standingSet_16 : decode cX2_standingSet 16 = .ok (.aload_n 0, 1) := by decide +kernel
theorem dX2_standingSet_17 : decode cX2_standingSet 17 = .ok (.getfield 51, 3) := by decide +kernel
theorem dX2_standingSet_20 : decode cX2_standingSet 20 = .ok (.aload_n 0, 1) := by decide +kernel
theorem dX2_standingSet_21 : decode cX2_standingSet 21 = .ok (.getfield 54, 3) := by decide +kernel
theorem dX2_standingSet_24 : decode cX2_standingSet 24 = .ok (.invokevirtual 87, 3) := by decide +kernel
theorem dX2_standingSet_27 : decode cX2_standingSet 27 = .ok (.ifCond .eq 13, 3) := by decide +kernel
theorem dX2_standingSet_30 : decode cX2_standingSet 30 = .ok (.iload_n 2, 1) := by decide +kernel
theorem dX2_standingSet_31 : decode cX2_standingSet 31 = .ok (.iload_n 1, 1) := by decide +kernel
theorem dX2_standingSet_32 : decode cX2_standingSet 32 = .ok (.if_icmp .ne 5, 3) := by decide +kernel
theorem dX2_standingSet_35 : decode cX2_standingSet 35 = .ok (.iload_n 3, 1) := by decide +kernel
theorem dX2_standingSet_36 : decode cX2_standingSet 36 = .ok (.ireturn, 1) := by decide +kernel
theorem dX2_standingSet_37 : decode cX2_standingSet 37 = .ok (.iinc 2 1, 3) := by decide +kernel
theorem dX2_standingSet_40 : decode cX2_standingSet 40 = .ok (.iinc 3 1, 3) := by decide +kernel
theorem dX2_standingSet_43 : decode cX2_standingSet 43 = .ok (.goto (-39), 3) := by decide +kernel
theorem dX2_standingSet_46 : decode cX2_standingSet 46 = .ok (.bipush (-9), 2) := by decide +kernel
theorem dX2_standingSet_48 : decode cX2_standingSet 48 = .ok (.ireturn, 1) := by decide +kernel
set_option maxRecDepth 20000 in
theorem ggX2_standsWith_X0_upholds : GoodIn wsX2_standsWith wsX0_upholds := goodIn_r _ [6, 7, 8, 9, 10, 4, 11, 12, 13, 14, 15, 16, 17, 18, 19, 20, 21, 22, 23, 24, 25, 26, 27, 28, 29, 30, 40, 41, 42, 43, 44] (by decide +kernel) (by decide +kernel)
set_option maxRecDepth 20000 in
theorem gX2_standsWith_X0_upholds_n87 : GoodIn wsX2_standsWith (wsX0_upholds) := ggX2_standsWith_X0_upholds
theorem dX2_standsWith_0 : decode cX2_standsWith 0 = .ok (.iload_n 2, 1) := by decide +kernel
theorem dX2_standsWith_1 : decode cX2_standsWith 1 = .ok (.iconst 1, 1) := by decide +kernel
theorem dX2_standsWith_2 : decode cX2_standsWith 2 = .ok (.iload_n 1, 1) := by decide +kernel
theorem dX2_standsWith_3 : decode cX2_standsWith 3 = .ok (.ishl, 1) := by decide +kernel
theorem dX2_standsWith_4 : decode cX2_standsWith 4 = .ok (.ior, 1) := by decide +kernel
theorem dX2_standsWith_5 : decode cX2_standsWith 5 = .ok (.istore_n 3, 1) := by decide +kernel
theorem dX2_standsWith_6 : decode cX2_standsWith 6 = .ok (.iload_n 3, 1) := by decide +kernel
theorem dX2_standsWith_7 : decode cX2_standsWith 7 = .ok (.istore 4, 2) := by decide +kernel
theorem dX2_standsWith_9 : decode cX2_standsWith 9 = .ok (.iload 4, 2) := by decide +kernel
theorem dX2_standsWith_11 : decode cX2_standsWith 11 = .ok (.sipush 255, 3) := by decide +kernel
theorem dX2_standsWith_14 : decode cX2_standsWith 14 = .ok (.if_icmp .gt 33, 3) := by decide +kernel
theorem dX2_standsWith_17 : decode cX2_standsWith 17 = .ok (.aload_n 0, 1) := by decide +kernel
theorem dX2_standsWith_18 : decode cX2_standsWith 18 = .ok (.getfield 19, 3) := by decide +kernel
theorem dX2_standsWith_21 : decode cX2_standsWith 21 = .ok (.iload 4, 2) := by decide +kernel
theorem dX2_standsWith_23 : decode cX2_standsWith 23 = .ok (.aload_n 0, 1) := by decide +kernel
theorem dX2_standsWith_24 : decode cX2_standsWith 24 = .ok (.getfield 51, 3) := by decide +kernel
theorem dX2_standsWith_27 : decode cX2_standsWith 27 = .ok (.iload_n 2, 1) := by decide +kernel
theorem dX2_standsWith_28 : decode cX2_standsWith 28 = .ok (.invokevirtual 87, 3) := by decide +kernel
theorem dX2_standsWith_31 : decode cX2_standsWith 31 = .ok (.ifCond .eq 5, 3) := by decide +kernel
theorem dX2_standsWith_34 : decode cX2_standsWith 34 = .ok (.iconst 1, 1) := by decide +kernel
theorem dX2_standsWith_35 : decode cX2_standsWith 35 = .ok (.ireturn, 1) := by decide +kernel
theorem dX2_standsWith_36 : decode cX2_standsWith 36 = .ok (.iload 4, 2) := by decide +kernel
theorem dX2_standsWith_38 : decode cX2_standsWith 38 = .ok (.iconst 1, 1) := by decide +kernel
theorem dX2_standsWith_39 : decode cX2_standsWith 39 = .ok (.iadd, 1) := by decide +kernel
theorem dX2_standsWith_40 : decode cX2_standsWith 40 = .ok (.iload_n 3, 1) := by decide +kernel
theorem dX2_standsWith_41 : decode cX2_standsWith 41 = .ok (.ior, 1) := by decide +kernel
theorem dX2_standsWith_42 : decode cX2_standsWith 42 = .ok (.istore 4, 2) := by decide +kernel
theorem dX2_standsWith_44 : decode cX2_standsWith 44 = .ok (.goto (-35), 3) := by decide +kernel
theorem dX2_standsWith_47 : decode cX2_standsWith 47 = .ok (.iconst 0, 1) := by decide +kernel
theorem dX2_standsWith_48 : decode cX2_standsWith 48 = .ok (.ireturn, 1) := by decide +kernel
set_option maxRecDepth 20000 in
theorem ggX2_sameSetsWith_X0_upholds : GoodIn wsX2_sameSetsWith wsX0_upholds := goodIn_r _ [7, 8, 9, 10, 11, 5, 12, 13, 14, 15, 16, 17, 18, 19, 20, 21, 22, 23, 24, 25, 26, 27, 28, 29, 30, 31, 41, 42, 43, 44, 45] (by decide +kernel) (by decide +kernel)
set_option maxRecDepth 20000 in
theorem gX2_sameSetsWith_X0_upholds_n87 : GoodIn wsX2_sameSetsWith (wsX0_upholds) := ggX2_sameSetsWith_X0_upholds
theorem dX2_sameSetsWith_0 : decode cX2_sameSetsWith 0 = .ok (.iconst 0, 1) := by decide +kernel
theorem dX2_sameSetsWith_1 : decode cX2_sameSetsWith 1 = .ok (.istore_n 3, 1) := by decide +kernel
theorem dX2_sameSetsWith_2 : decode cX2_sameSetsWith 2 = .ok (.iload_n 3, 1) := by decide +kernel
theorem dX2_sameSetsWith_3 : decode cX2_sameSetsWith 3 = .ok (.sipush 255, 3) := by decide +kernel
theorem dX2_sameSetsWith_6 : decode cX2_sameSetsWith 6 = .ok (.if_icmp .gt 40, 3) := by decide +kernel
theorem dX2_sameSetsWith_9 : decode cX2_sameSetsWith 9 = .ok (.aload_n 0, 1) := by decide +kernel
theorem dX2_sameSetsWith_10 : decode cX2_sameSetsWith 10 = .ok (.getfield 19, 3) := by decide +kernel
theorem dX2_sameSetsWith_13 : decode cX2_sameSetsWith 13 = .ok (.iload_n 3, 1) := by decide +kernel
theorem dX2_sameSetsWith_14 : decode cX2_sameSetsWith 14 = .ok (.aload_n 0, 1) := by decide +kernel
theorem dX2_sameSetsWith_15 : decode cX2_sameSetsWith 15 = .ok (.getfield 51, 3) := by decide +kernel
theorem dX2_sameSetsWith_18 : decode cX2_sameSetsWith 18 = .ok (.aload_n 0, 1) := by decide +kernel
theorem dX2_sameSetsWith_19 : decode cX2_sameSetsWith 19 = .ok (.getfield 54, 3) := by decide +kernel
theorem dX2_sameSetsWith_22 : decode cX2_sameSetsWith 22 = .ok (.invokevirtual 87, 3) := by decide +kernel
theorem dX2_sameSetsWith_25 : decode cX2_sameSetsWith 25 = .ok (.aload_n 0, 1) := by decide +kernel
theorem dX2_sameSetsWith_26 : decode cX2_sameSetsWith 26 = .ok (.getfield 19, 3) := by decide +kernel
theorem dX2_sameSetsWith_29 : decode cX2_sameSetsWith 29 = .ok (.iload_n 3, 1) := by decide +kernel
theorem dX2_sameSetsWith_30 : decode cX2_sameSetsWith 30 = .ok (.iload_n 1, 1) := by decide +kernel
theorem dX2_sameSetsWith_31 : decode cX2_sameSetsWith 31 = .ok (.iload_n 2, 1) := by decide +kernel
theorem dX2_sameSetsWith_32 : decode cX2_sameSetsWith 32 = .ok (.invokevirtual 87, 3) := by decide +kernel
theorem dX2_sameSetsWith_35 : decode cX2_sameSetsWith 35 = .ok (.if_icmp .eq 5, 3) := by decide +kernel
theorem dX2_sameSetsWith_38 : decode cX2_sameSetsWith 38 = .ok (.iconst 0, 1) := by decide +kernel
theorem dX2_sameSetsWith_39 : decode cX2_sameSetsWith 39 = .ok (.ireturn, 1) := by decide +kernel
theorem dX2_sameSetsWith_40 : decode cX2_sameSetsWith 40 = .ok (.iinc 3 1, 3) := by decide +kernel
theorem dX2_sameSetsWith_43 : decode cX2_sameSetsWith 43 = .ok (.goto (-41), 3) := by decide +kernel
theorem dX2_sameSetsWith_46 : decode cX2_sameSetsWith 46 = .ok (.iconst 1, 1) := by decide +kernel
theorem dX2_sameSetsWith_47 : decode cX2_sameSetsWith 47 = .ok (.ireturn, 1) := by decide +kernel
set_option maxRecDepth 20000 in
theorem ggX2_markOfRule_J6_bitCount_0f7a4 : GoodIn wsX2_markOfRule wsJ6_bitCount_0f7a4 := goodIn_r _ [6, 7, 8, 9] (by decide +kernel) (by decide +kernel)
set_option maxRecDepth 20000 in
theorem gX2_markOfRule_J6_bitCount_0f7a4 : GoodIn wsX2_markOfRule (va_wsS RX2 118 yJ6_bitCount_0f7a4 wsJ6_bitCount_0f7a4) := goodIn_app (goodIn_of _ (by decide +kernel)) ggX2_markOfRule_J6_bitCount_0f7a4
theorem dX2_markOfRule_0 : decode cX2_markOfRule 0 = .ok (.aload_n 0, 1) := by decide +kernel
theorem dX2_markOfRule_1 : decode cX2_markOfRule 1 = .ok (.dup, 1) := by decide +kernel
theorem dX2_markOfRule_2 : decode cX2_markOfRule 2 = .ok (.getfield 157, 3) := by decide +kernel
theorem dX2_markOfRule_5 : decode cX2_markOfRule 5 = .ok (.lconst 1, 1) := by decide +kernel
theorem dX2_markOfRule_6 : decode cX2_markOfRule 6 = .ok (.ladd, 1) := by decide +kernel
theorem dX2_markOfRule_7 : decode cX2_markOfRule 7 = .ok (.putfield 157, 3) := by decide +kernel
theorem dX2_markOfRule_10 : decode cX2_markOfRule 10 = .ok (.aload_n 0, 1) := by decide +kernel
theorem dX2_markOfRule_11 : decode cX2_markOfRule 11 = .ok (.getfield 19, 3) := by decide +kernel
theorem dX2_markOfRule_14 : decode cX2_markOfRule 14 = .ok (.getfield 67, 3) := by decide +kernel
theorem dX2_markOfRule_17 : decode cX2_markOfRule 17 = .ok (.iload_n 1, 1) := by decide +kernel
theorem dX2_markOfRule_18 : decode cX2_markOfRule 18 = .ok (.iaload, 1) := by decide +kernel
theorem dX2_markOfRule_19 : decode cX2_markOfRule 19 = .ok (.invokestatic 118, 3) := by decide +kernel
theorem dX2_markOfRule_22 : decode cX2_markOfRule 22 = .ok (.aload_n 0, 1) := by decide +kernel
theorem dX2_markOfRule_23 : decode cX2_markOfRule 23 = .ok (.getfield 19, 3) := by decide +kernel
theorem dX2_markOfRule_26 : decode cX2_markOfRule 26 = .ok (.getfield 70, 3) := by decide +kernel
theorem dX2_markOfRule_29 : decode cX2_markOfRule 29 = .ok (.iload_n 1, 1) := by decide +kernel
theorem dX2_markOfRule_30 : decode cX2_markOfRule 30 = .ok (.iaload, 1) := by decide +kernel
theorem dX2_markOfRule_31 : decode cX2_markOfRule 31 = .ok (.invokestatic 118, 3) := by decide +kernel
theorem dX2_markOfRule_34 : decode cX2_markOfRule 34 = .ok (.iadd, 1) := by decide +kernel
theorem dX2_markOfRule_35 : decode cX2_markOfRule 35 = .ok (.ireturn, 1) := by decide +kernel
set_option maxRecDepth 20000 in
theorem ggX2_markOfLaw_X2_markOfRule : GoodIn wsX2_markOfLaw wsX2_markOfRule := goodIn_r _ [7, 1, 8, 9, 10, 11, 12, 13, 14, 15, 16, 17, 18, 19, 20, 21, 22, 23, 24, 25, 26, 27, 28, 29] (by decide +kernel) (by decide +kernel)
set_option maxRecDepth 20000 in
theorem gX2_markOfLaw_X2_markOfRule : GoodIn wsX2_markOfLaw (wsV RX2 139 RX2 yX2_markOfRule wsX2_markOfRule) := goodIn_app (goodIn_of _ (by decide +kernel)) ggX2_markOfLaw_X2_markOfRule
theorem dX2_markOfLaw_0 : decode cX2_markOfLaw 0 = .ok (.aload_n 0, 1) := by decide +kernel
theorem dX2_markOfLaw_1 : decode cX2_markOfLaw 1 = .ok (.dup, 1) := by decide +kernel
theorem dX2_markOfLaw_2 : decode cX2_markOfLaw 2 = .ok (.getfield 157, 3) := by decide +kernel
theorem dX2_markOfLaw_5 : decode cX2_markOfLaw 5 = .ok (.ldc2_w 161, 3) := by decide +kernel
theorem dX2_markOfLaw_8 : decode cX2_markOfLaw 8 = .ok (.ladd, 1) := by decide +kernel
theorem dX2_markOfLaw_9 : decode cX2_markOfLaw 9 = .ok (.putfield 157, 3) := by decide +kernel
theorem dX2_markOfLaw_12 : decode cX2_markOfLaw 12 = .ok (.aload_n 0, 1) := by decide +kernel
theorem dX2_markOfLaw_13 : decode cX2_markOfLaw 13 = .ok (.iload_n 1, 1) := by decide +kernel
theorem dX2_markOfLaw_14 : decode cX2_markOfLaw 14 = .ok (.invokevirtual 139, 3) := by decide +kernel
theorem dX2_markOfLaw_17 : decode cX2_markOfLaw 17 = .ok (.iconst 2, 1) := by decide +kernel
theorem dX2_markOfLaw_18 : decode cX2_markOfLaw 18 = .ok (.imul, 1) := by decide +kernel
theorem dX2_markOfLaw_19 : decode cX2_markOfLaw 19 = .ok (.ireturn, 1) := by decide +kernel
set_option maxRecDepth 20000 in
theorem ggX2_markOfHabit_X2_markOfRule : GoodIn wsX2_markOfHabit wsX2_markOfRule := goodIn_r _ [8, 1, 3, 9, 10, 11, 12, 13, 14, 15, 16, 17, 18, 19, 20, 21, 22, 23, 24, 25, 26, 27, 28, 29] (by decide +kernel) (by decide +kernel)
