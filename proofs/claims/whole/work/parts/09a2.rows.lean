set_option maxRecDepth 20000 in
theorem gX3_known_X3_in : GoodIn wsX3_known (va_wsS RX3 63 yX3_in wsX3_in) := goodIn_app (goodIn_of _ (by decide +kernel)) ggX3_known_X3_in
set_option maxRecDepth 20000 in
theorem ggX3_known_X3_grows : GoodIn wsX3_known wsX3_grows := goodIn_r _ [12, 13, 14, 15, 16, 17, 18, 19, 20, 7, 21, 22, 23, 24, 25, 26, 27, 28, 29, 30, 31, 32, 33, 34, 35, 36, 37, 38, 39, 40, 41, 42, 43, 44, 45, 46, 47] (by decide +kernel) (by decide +kernel)
set_option maxRecDepth 20000 in
theorem gX3_known_X3_grows : GoodIn wsX3_known (wsV RX3 137 RX3 yX3_grows wsX3_grows) := goodIn_app (goodIn_of _ (by decide +kernel)) ggX3_known_X3_grows
set_option maxRecDepth 20000 in
theorem ggX3_known_X3_has : GoodIn wsX3_known wsX3_has := goodIn_r _ [21] (by decide +kernel) (by decide +kernel)
set_option maxRecDepth 20000 in
theorem gX3_known_X3_has : GoodIn wsX3_known (va_wsS RX3 130 yX3_has wsX3_has) := goodIn_app (goodIn_of _ (by decide +kernel)) ggX3_known_X3_has
theorem dX3_known_0 : decode cX3_known 0 = .ok (.iload_n 1, 1) := by decide +kernel
theorem dX3_known_1 : decode cX3_known 1 = .ok (.i2l, 1) := by decide +kernel
theorem dX3_known_2 : decode cX3_known 2 = .ok (.lconst 0, 1) := by decide +kernel
theorem dX3_known_3 : decode cX3_known 3 = .ok (.ldc2_w 128, 3) := by decide +kernel
theorem dX3_known_6 : decode cX3_known 6 = .ok (.invokestatic 63, 3) := by decide +kernel
theorem dX3_known_9 : decode cX3_known 9 = .ok (.ifCond .ne 5, 3) := by decide +kernel
theorem dX3_known_12 : decode cX3_known 12 = .ok (.iconst (-1), 1) := by decide +kernel
theorem dX3_known_13 : decode cX3_known 13 = .ok (.ireturn, 1) := by decide +kernel
theorem dX3_known_14 : decode cX3_known 14 = .ok (.iconst 0, 1) := by decide +kernel
theorem dX3_known_15 : decode cX3_known 15 = .ok (.istore_n 2, 1) := by decide +kernel
theorem dX3_known_16 : decode cX3_known 16 = .ok (.sipush 255, 3) := by decide +kernel
theorem dX3_known_19 : decode cX3_known 19 = .ok (.istore_n 3, 1) := by decide +kernel
theorem dX3_known_20 : decode cX3_known 20 = .ok (.iconst 0, 1) := by decide +kernel
theorem dX3_known_21 : decode cX3_known 21 = .ok (.istore 4, 2) := by decide +kernel
theorem dX3_known_23 : decode cX3_known 23 = .ok (.iload 4, 2) := by decide +kernel
theorem dX3_known_25 : decode cX3_known 25 = .ok (.bipush 20, 2) := by decide +kernel
theorem dX3_known_27 : decode cX3_known 27 = .ok (.if_icmp .ge 42, 3) := by decide +kernel
theorem dX3_known_30 : decode cX3_known 30 = .ok (.aload_n 0, 1) := by decide +kernel
theorem dX3_known_31 : decode cX3_known 31 = .ok (.aload_n 0, 1) := by decide +kernel
theorem dX3_known_32 : decode cX3_known 32 = .ok (.getfield 120, 3) := by decide +kernel
theorem dX3_known_35 : decode cX3_known 35 = .ok (.aload_n 0, 1) := by decide +kernel
theorem dX3_known_36 : decode cX3_known 36 = .ok (.getfield 114, 3) := by decide +kernel
theorem dX3_known_39 : decode cX3_known 39 = .ok (.iload_n 3, 1) := by decide +kernel
theorem dX3_known_40 : decode cX3_known 40 = .ok (.invokevirtual 137, 3) := by decide +kernel
theorem dX3_known_43 : decode cX3_known 43 = .ok (.istore_n 2, 1) := by decide +kernel
theorem dX3_known_44 : decode cX3_known 44 = .ok (.aload_n 0, 1) := by decide +kernel
theorem dX3_known_45 : decode cX3_known 45 = .ok (.aload_n 0, 1) := by decide +kernel
theorem dX3_known_46 : decode cX3_known 46 = .ok (.getfield 120, 3) := by decide +kernel
theorem dX3_known_49 : decode cX3_known 49 = .ok (.aload_n 0, 1) := by decide +kernel
theorem dX3_known_50 : decode cX3_known 50 = .ok (.getfield 117, 3) := by decide +kernel
theorem dX3_known_53 : decode cX3_known 53 = .ok (.ior, 1) := by decide +kernel
theorem dX3_known_54 : decode cX3_known 54 = .ok (.aload_n 0, 1) := by decide +kernel
theorem dX3_known_55 : decode cX3_known 55 = .ok (.getfield 114, 3) := by decide +kernel
theorem dX3_known_58 : decode cX3_known 58 = .ok (.iload_n 2, 1) := by decide +kernel
theorem dX3_known_59 : decode cX3_known 59 = .ok (.invokevirtual 137, 3) := by decide +kernel
theorem dX3_known_62 : decode cX3_known 62 = .ok (.istore_n 3, 1) := by decide +kernel
theorem dX3_known_63 : decode cX3_known 63 = .ok (.iinc 4 1, 3) := by decide +kernel
theorem dX3_known_66 : decode cX3_known 66 = .ok (.goto (-43), 3) := by decide +kernel
theorem dX3_known_69 : decode cX3_known 69 = .ok (.iload_n 2, 1) := by decide +kernel
theorem dX3_known_70 : decode cX3_known 70 = .ok (.iload_n 1, 1) := by decide +kernel
theorem dX3_known_71 : decode cX3_known 71 = .ok (.invokestatic 130, 3) := by decide +kernel
theorem dX3_known_74 : decode cX3_known 74 = .ok (.ifCond .eq 7, 3) := by decide +kernel
theorem dX3_known_77 : decode cX3_known 77 = .ok (.iconst 1, 1) := by decide +kernel
theorem dX3_known_78 : decode cX3_known 78 = .ok (.goto 17, 3) := by decide +kernel
theorem dX3_known_81 : decode cX3_known 81 = .ok (.iload_n 3, 1) := by decide +kernel
theorem dX3_known_82 : decode cX3_known 82 = .ok (.iload_n 1, 1) := by decide +kernel
theorem dX3_known_83 : decode cX3_known 83 = .ok (.invokestatic 130, 3) := by decide +kernel
theorem dX3_known_86 : decode cX3_known 86 = .ok (.ifCond .eq 8, 3) := by decide +kernel
theorem dX3_known_89 : decode cX3_known 89 = .ok (.bipush (-9), 2) := by decide +kernel
theorem dX3_known_91 : decode cX3_known 91 = .ok (.goto 4, 3) := by decide +kernel
theorem dX3_known_94 : decode cX3_known 94 = .ok (.iconst 0, 1) := by decide +kernel
theorem dX3_known_95 : decode cX3_known 95 = .ok (.ireturn, 1) := by decide +kernel
set_option maxRecDepth 20000 in
theorem ggX3_why_X3_in : GoodIn wsX3_why wsX3_in := goodIn_r _ [10] (by decide +kernel) (by decide +kernel)
set_option maxRecDepth 20000 in
theorem gX3_why_X3_in : GoodIn wsX3_why (va_wsS RX3 63 yX3_in wsX3_in) := goodIn_app (goodIn_of _ (by decide +kernel)) ggX3_why_X3_in
set_option maxRecDepth 20000 in
theorem ggX3_why_X3_set : GoodIn wsX3_why wsX3_set := goodIn_r _ [14, 15, 4, 2, 16, 17, 18, 9, 19, 20, 21, 22, 23, 3, 24, 25, 26, 27, 28, 29, 30, 31, 32, 33, 34, 35, 36, 37, 38, 5, 6, 39, 40, 41, 42, 43, 44, 45, 46, 47, 48, 49, 50, 51, 52, 53, 54, 55, 56, 57, 58, 59, 60, 61, 62, 63, 64, 65, 66, 67, 68] (by decide +kernel) (by decide +kernel)
set_option maxRecDepth 20000 in
theorem gX3_why_X3_set : GoodIn wsX3_why (wsV RX3 153 RX3 yX3_set wsX3_set) := goodIn_app (goodIn_of _ (by decide +kernel)) ggX3_why_X3_set
set_option maxRecDepth 20000 in
theorem ggX3_why_X3_has : GoodIn wsX3_why wsX3_has := goodIn_r _ [34] (by decide +kernel) (by decide +kernel)
set_option maxRecDepth 20000 in
theorem gX3_why_X3_has : GoodIn wsX3_why (va_wsS RX3 130 yX3_has wsX3_has) := goodIn_app (goodIn_of _ (by decide +kernel)) ggX3_why_X3_has
set_option maxRecDepth 20000 in
theorem ggX3_why_X3_grows : GoodIn wsX3_why wsX3_grows := goodIn_r _ [38, 5, 6, 28, 29, 31, 30, 32, 33, 9, 34, 43, 44, 45, 46, 47, 48, 49, 50, 51, 52, 53, 54, 55, 56, 57, 58, 59, 60, 61, 62, 63, 64, 65, 66, 67, 68] (by decide +kernel) (by decide +kernel)
set_option maxRecDepth 20000 in
theorem gX3_why_X3_grows : GoodIn wsX3_why (wsV RX3 137 RX3 yX3_grows wsX3_grows) := goodIn_app (goodIn_of _ (by decide +kernel)) ggX3_why_X3_grows
theorem dX3_why_0 : decode cX3_why 0 = .ok (.iload_n 1, 1) := by decide +kernel
theorem dX3_why_1 : decode cX3_why 1 = .ok (.ifCond .lt 25, 3) := by decide +kernel
theorem dX3_why_4 : decode cX3_why 4 = .ok (.iload_n 2, 1) := by decide +kernel
theorem dX3_why_5 : decode cX3_why 5 = .ok (.i2l, 1) := by decide +kernel
theorem dX3_why_6 : decode cX3_why 6 = .ok (.lconst 0, 1) := by decide +kernel
theorem dX3_why_7 : decode cX3_why 7 = .ok (.ldc2_w 128, 3) := by decide +kernel
theorem dX3_why_10 : decode cX3_why 10 = .ok (.invokestatic 63, 3) := by decide +kernel
theorem dX3_why_13 : decode cX3_why 13 = .ok (.ifCond .eq 13, 3) := by decide +kernel
theorem dX3_why_16 : decode cX3_why 16 = .ok (.iload_n 3, 1) := by decide +kernel
theorem dX3_why_17 : decode cX3_why 17 = .ok (.i2l, 1) := by decide +kernel
theorem dX3_why_18 : decode cX3_why 18 = .ok (.lconst 0, 1) := by decide +kernel
theorem dX3_why_19 : decode cX3_why 19 = .ok (.lconst 1, 1) := by decide +kernel
theorem dX3_why_20 : decode cX3_why 20 = .ok (.invokestatic 63, 3) := by decide +kernel
theorem dX3_why_23 : decode cX3_why 23 = .ok (.ifCond .ne 5, 3) := by decide +kernel
theorem dX3_why_26 : decode cX3_why 26 = .ok (.iconst (-1), 1) := by decide +kernel
theorem dX3_why_27 : decode cX3_why 27 = .ok (.ireturn, 1) := by decide +kernel
theorem dX3_why_28 : decode cX3_why 28 = .ok (.aload_n 0, 1) := by decide +kernel
theorem dX3_why_29 : decode cX3_why 29 = .ok (.iload_n 1, 1) := by decide +kernel
theorem dX3_why_30 : decode cX3_why 30 = .ok (.invokevirtual 153, 3) := by decide +kernel
theorem dX3_why_33 : decode cX3_why 33 = .ok (.istore 4, 2) := by decide +kernel
theorem dX3_why_35 : decode cX3_why 35 = .ok (.iload 4, 2) := by decide +kernel
theorem dX3_why_37 : decode cX3_why 37 = .ok (.bipush (-9), 2) := by decide +kernel
theorem dX3_why_39 : decode cX3_why 39 = .ok (.if_icmp .eq 12, 3) := by decide +kernel
theorem dX3_why_42 : decode cX3_why 42 = .ok (.iload 4, 2) := by decide +kernel
theorem dX3_why_44 : decode cX3_why 44 = .ok (.iload_n 2, 1) := by decide +kernel
theorem dX3_why_45 : decode cX3_why 45 = .ok (.invokestatic 130, 3) := by decide +kernel
theorem dX3_why_48 : decode cX3_why 48 = .ok (.ifCond .ne 6, 3) := by decide +kernel
theorem dX3_why_51 : decode cX3_why 51 = .ok (.bipush (-9), 2) := by decide +kernel
theorem dX3_why_53 : decode cX3_why 53 = .ok (.ireturn, 1) := by decide +kernel
theorem dX3_why_54 : decode cX3_why 54 = .ok (.aload_n 0, 1) := by decide +kernel
theorem dX3_why_55 : decode cX3_why 55 = .ok (.aload_n 0, 1) := by decide +kernel
theorem dX3_why_56 : decode cX3_why 56 = .ok (.getfield 120, 3) := by decide +kernel
theorem dX3_why_59 : decode cX3_why 59 = .ok (.aload_n 0, 1) := by decide +kernel
theorem dX3_why_60 : decode cX3_why 60 = .ok (.getfield 117, 3) := by decide +kernel
theorem dX3_why_63 : decode cX3_why 63 = .ok (.iload 4, 2) := by decide +kernel
theorem dX3_why_65 : decode cX3_why 65 = .ok (.iand, 1) := by decide +kernel
theorem dX3_why_66 : decode cX3_why 66 = .ok (.ior, 1) := by decide +kernel
theorem dX3_why_67 : decode cX3_why 67 = .ok (.aload_n 0, 1) := by decide +kernel
theorem dX3_why_68 : decode cX3_why 68 = .ok (.getfield 114, 3) := by decide +kernel
theorem dX3_why_71 : decode cX3_why 71 = .ok (.iload 4, 2) := by decide +kernel
theorem dX3_why_73 : decode cX3_why 73 = .ok (.invokevirtual 137, 3) := by decide +kernel
theorem dX3_why_76 : decode cX3_why 76 = .ok (.pop, 1) := by decide +kernel
theorem dX3_why_77 : decode cX3_why 77 = .ok (.iload_n 3, 1) := by decide +kernel
theorem dX3_why_78 : decode cX3_why 78 = .ok (.ifCond .ne 12, 3) := by decide +kernel
theorem dX3_why_81 : decode cX3_why 81 = .ok (.aload_n 0, 1) := by decide +kernel
theorem dX3_why_82 : decode cX3_why 82 = .ok (.getfield 41, 3) := by decide +kernel
theorem dX3_why_85 : decode cX3_why 85 = .ok (.iload_n 2, 1) := by decide +kernel
theorem dX3_why_86 : decode cX3_why 86 = .ok (.iaload, 1) := by decide +kernel
theorem dX3_why_87 : decode cX3_why 87 = .ok (.goto 9, 3) := by decide +kernel
theorem dX3_why_90 : decode cX3_why 90 = .ok (.aload_n 0, 1) := by decide +kernel
theorem dX3_why_91 : decode cX3_why 91 = .ok (.getfield 44, 3) := by decide +kernel
theorem dX3_why_94 : decode cX3_why 94 = .ok (.iload_n 2, 1) := by decide +kernel
theorem dX3_why_95 : decode cX3_why 95 = .ok (.iaload, 1) := by decide +kernel
theorem dX3_why_96 : decode cX3_why 96 = .ok (.ireturn, 1) := by decide +kernel
set_option maxRecDepth 20000 in
theorem ggX3_findHangs_X3_has : GoodIn wsX3_findHangs wsX3_has := goodIn_r _ [11] (by decide +kernel) (by decide +kernel)
set_option maxRecDepth 20000 in
theorem gX3_findHangs_X3_has : GoodIn wsX3_findHangs (va_wsS RX3 130 yX3_has wsX3_has) := goodIn_app (goodIn_of _ (by decide +kernel)) ggX3_findHangs_X3_has
theorem dX3_findHangs_0 : decode cX3_findHangs 0 = .ok (.iconst 0, 1) := by decide +kernel
theorem dX3_findHangs_1 : decode cX3_findHangs 1 = .ok (.istore_n 2, 1) := by decide +kernel
theorem dX3_findHangs_2 : decode cX3_findHangs 2 = .ok (.iload_n 2, 1) := by decide +kernel
theorem dX3_findHangs_3 : decode cX3_findHangs 3 = .ok (.bipush 8, 2) := by decide +kernel
theorem dX3_findHangs_5 : decode cX3_findHangs 5 = .ok (.if_icmp .ge 23, 3) := by decide +kernel
theorem dX3_findHangs_8 : decode cX3_findHangs 8 = .ok (.aload_n 0, 1) := by decide +kernel
theorem dX3_findHangs_9 : decode cX3_findHangs 9 = .ok (.getfield 53, 3) := by decide +kernel
theorem dX3_findHangs_12 : decode cX3_findHangs 12 = .ok (.iload_n 2, 1) := by decide +kernel
theorem dX3_findHangs_13 : decode cX3_findHangs 13 = .ok (.iconst 0, 1) := by decide +kernel
theorem dX3_findHangs_14 : decode cX3_findHangs 14 = .ok (.iastore, 1) := by decide +kernel
theorem dX3_findHangs_15 : decode cX3_findHangs 15 = .ok (.aload_n 0, 1) := by decide +kernel
theorem dX3_findHangs_16 : decode cX3_findHangs 16 = .ok (.getfield 56, 3) := by decide +kernel
theorem dX3_findHangs_19 : decode cX3_findHangs 19 = .ok (.iload_n 2, 1) := by decide +kernel
theorem dX3_findHangs_20 : decode cX3_findHangs 20 = .ok (.iconst 0, 1) := by decide +kernel
theorem dX3_findHangs_21 : decode cX3_findHangs 21 = .ok (.iastore, 1) := by decide +kernel
theorem dX3_findHangs_22 : decode cX3_findHangs 22 = .ok (.iinc 2 1, 3) := by decide +kernel
theorem dX3_findHangs_25 : decode cX3_findHangs 25 = .ok (.goto (-23), 3) := by decide +kernel
theorem dX3_findHangs_28 : decode cX3_findHangs 28 = .ok (.iconst 0, 1) := by decide +kernel
theorem dX3_findHangs_29 : decode cX3_findHangs 29 = .ok (.istore_n 2, 1) := by decide +kernel
theorem dX3_findHangs_30 : decode cX3_findHangs 30 = .ok (.iload_n 2, 1) := by decide +kernel
theorem dX3_findHangs_31 : decode cX3_findHangs 31 = .ok (.aload_n 0, 1) := by decide +kernel
theorem dX3_findHangs_32 : decode cX3_findHangs 32 = .ok (.getfield 59, 3) := by decide +kernel
theorem dX3_findHangs_35 : decode cX3_findHangs 35 = .ok (.if_icmp .ge 79, 3) := by decide +kernel
theorem dX3_findHangs_38 : decode cX3_findHangs 38 = .ok (.aload_n 0, 1) := by decide +kernel
theorem dX3_findHangs_39 : decode cX3_findHangs 39 = .ok (.getfield 114, 3) := by decide +kernel
theorem dX3_findHangs_42 : decode cX3_findHangs 42 = .ok (.iload_n 2, 1) := by decide +kernel
theorem dX3_findHangs_43 : decode cX3_findHangs 43 = .ok (.invokestatic 130, 3) := by decide +kernel
theorem dX3_findHangs_46 : decode cX3_findHangs 46 = .ok (.ifCond .eq 62, 3) := by decide +kernel
theorem dX3_findHangs_49 : decode cX3_findHangs 49 = .ok (.aload_n 0, 1) := by decide +kernel
theorem dX3_findHangs_50 : decode cX3_findHangs 50 = .ok (.getfield 7, 3) := by decide +kernel
theorem dX3_findHangs_53 : decode cX3_findHangs 53 = .ok (.iload_n 2, 1) := by decide +kernel
theorem dX3_findHangs_54 : decode cX3_findHangs 54 = .ok (.iaload, 1) := by decide +kernel
theorem dX3_findHangs_55 : decode cX3_findHangs 55 = .ok (.bipush 8, 2) := by decide +kernel
theorem dX3_findHangs_57 : decode cX3_findHangs 57 = .ok (.if_icmp .eq 51, 3) := by decide +kernel
theorem dX3_findHangs_60 : decode cX3_findHangs 60 = .ok (.aload_n 0, 1) := by decide +kernel
theorem dX3_findHangs_61 : decode cX3_findHangs 61 = .ok (.getfield 53, 3) := by decide +kernel
theorem dX3_findHangs_64 : decode cX3_findHangs 64 = .ok (.aload_n 0, 1) := by decide +kernel
theorem dX3_findHangs_65 : decode cX3_findHangs 65 = .ok (.getfield 7, 3) := by decide +kernel
theorem dX3_findHangs_68 : decode cX3_findHangs 68 = .ok (.iload_n 2, 1) := by decide +kernel
theorem dX3_findHangs_69 : decode cX3_findHangs 69 = .ok (.iaload, 1) := by decide +kernel
theorem dX3_findHangs_70 : decode cX3_findHangs 70 = .ok (.dup2, 1) := by decide +kernel
theorem dX3_findHangs_71 : decode cX3_findHangs 71 = .ok (.iaload, 1) := by decide +kernel
theorem dX3_findHangs_72 : decode cX3_findHangs 72 = .ok (.aload_n 0, 1) := by decide +kernel
theorem dX3_findHangs_73 : decode cX3_findHangs 73 = .ok (.getfield 13, 3) := by decide +kernel
theorem dX3_findHangs_76 : decode cX3_findHangs 76 = .ok (.iload_n 2, 1) := by decide +kernel
theorem dX3_findHangs_77 : decode cX3_findHangs 77 = .ok (.iaload, 1) := by decide +kernel
theorem dX3_findHangs_78 : decode cX3_findHangs 78 = .ok (.ior, 1) := by decide +kernel
theorem dX3_findHangs_79 : decode cX3_findHangs 79 = .ok (.iastore, 1) := by decide +kernel
theorem dX3_findHangs_80 : decode cX3_findHangs 80 = .ok (.aload_n 0, 1) := by decide +kernel
theorem dX3_findHangs_81 : decode cX3_findHangs 81 = .ok (.getfield 56, 3) := by decide +kernel
theorem dX3_findHangs_84 : decode cX3_findHangs 84 = .ok (.aload_n 0, 1) := by decide +kernel
theorem dX3_findHangs_85 : decode cX3_findHangs 85 = .ok (.getfield 7, 3) := by decide +kernel
theorem dX3_findHangs_88 : decode cX3_findHangs 88 = .ok (.iload_n 2, 1) := by decide +kernel
theorem dX3_findHangs_89 : decode cX3_findHangs 89 = .ok (.iaload, 1) := by decide +kernel
theorem dX3_findHangs_90 : decode cX3_findHangs 90 = .ok (.dup2, 1) := by decide +kernel
theorem dX3_findHangs_91 : decode cX3_findHangs 91 = .ok (.iaload, 1) := by decide +kernel
theorem dX3_findHangs_92 : decode cX3_findHangs 92 = .ok (.iload_n 1, 1) := by decide +kernel
theorem dX3_findHangs_93 : decode cX3_findHangs 93 = .ok (.ifCond .eq 7, 3) := by decide +kernel
theorem dX3_findHangs_96 : decode cX3_findHangs 96 = .ok (.iconst 0, 1) := by decide +kernel
theorem dX3_findHangs_97 : decode cX3_findHangs 97 = .ok (.goto 9, 3) := by decide +kernel
theorem dX3_findHangs_100 : decode cX3_findHangs 100 = .ok (.aload_n 0, 1) := by decide +kernel
theorem dX3_findHangs_101 : decode cX3_findHangs 101 = .ok (.getfield 16, 3) := by decide +kernel
theorem dX3_findHangs_104 : decode cX3_findHangs 104 = .ok (.iload_n 2, 1) := by decide +kernel
theorem dX3_findHangs_105 : decode cX3_findHangs 105 = .ok (.iaload, 1) := by decide +kernel
theorem dX3_findHangs_106 : decode cX3_findHangs 106 = .ok (.ior, 1) := by decide +kernel
theorem dX3_findHangs_107 : decode cX3_findHangs 107 = .ok (.iastore, 1) := by decide +kernel
theorem dX3_findHangs_108 : decode cX3_findHangs 108 = .ok (.iinc 2 1, 3) := by decide +kernel
theorem dX3_findHangs_111 : decode cX3_findHangs 111 = .ok (.goto (-81), 3) := by decide +kernel
theorem dX3_findHangs_114 : decode cX3_findHangs 114 = .ok (.iconst 0, 1) := by decide +kernel
theorem dX3_findHangs_115 : decode cX3_findHangs 115 = .ok (.istore_n 2, 1) := by decide +kernel
theorem dX3_findHangs_116 : decode cX3_findHangs 116 = .ok (.iload_n 2, 1) := by decide +kernel
theorem dX3_findHangs_117 : decode cX3_findHangs 117 = .ok (.bipush 16, 2) := by decide +kernel
theorem dX3_findHangs_119 : decode cX3_findHangs 119 = .ok (.if_icmp .ge 183, 3) := by decide +kernel
theorem dX3_findHangs_122 : decode cX3_findHangs 122 = .ok (.iconst 0, 1) := by decide +kernel
theorem dX3_findHangs_123 : decode cX3_findHangs 123 = .ok (.istore_n 3, 1) := by decide +kernel
theorem dX3_findHangs_124 : decode cX3_findHangs 124 = .ok (.iload_n 3, 1) := by decide +kernel
theorem dX3_findHangs_125 : decode cX3_findHangs 125 = .ok (.bipush 8, 2) := by decide +kernel
theorem dX3_findHangs_127 : decode cX3_findHangs 127 = .ok (.if_icmp .ge 169, 3) := by decide +kernel
theorem dX3_findHangs_130 : decode cX3_findHangs 130 = .ok (.aload_n 0, 1) := by decide +kernel
theorem dX3_findHangs_131 : decode cX3_findHangs 131 = .ok (.getfield 53, 3) := by decide +kernel
theorem dX3_findHangs_134 : decode cX3_findHangs 134 = .ok (.iload_n 3, 1) := by decide +kernel
theorem dX3_findHangs_135 : decode cX3_findHangs 135 = .ok (.iaload, 1) := by decide +kernel
theorem dX3_findHangs_136 : decode cX3_findHangs 136 = .ok (.istore 4, 2) := by decide +kernel
theorem dX3_findHangs_138 : decode cX3_findHangs 138 = .ok (.aload_n 0, 1) := by decide +kernel
theorem dX3_findHangs_139 : decode cX3_findHangs 139 = .ok (.getfield 56, 3) := by decide +kernel
theorem dX3_findHangs_142 : decode cX3_findHangs 142 = .ok (.iload_n 3, 1) := by decide +kernel
theorem dX3_findHangs_143 : decode cX3_findHangs 143 = .ok (.iaload, 1) := by decide +kernel
theorem dX3_findHangs_144 : decode cX3_findHangs 144 = .ok (.istore 5, 2) := by decide +kernel
theorem dX3_findHangs_146 : decode cX3_findHangs 146 = .ok (.iconst 0, 1) := by decide +kernel
theorem dX3_findHangs_147 : decode cX3_findHangs 147 = .ok (.istore 6, 2) := by decide +kernel
theorem dX3_findHangs_149 : decode cX3_findHangs 149 = .ok (.iload 6, 2) := by decide +kernel
theorem dX3_findHangs_151 : decode cX3_findHangs 151 = .ok (.bipush 8, 2) := by decide +kernel
theorem dX3_findHangs_153 : decode cX3_findHangs 153 = .ok (.if_icmp .ge 121, 3) := by decide +kernel
theorem dX3_findHangs_156 : decode cX3_findHangs 156 = .ok (.iload 4, 2) := by decide +kernel
theorem dX3_findHangs_158 : decode cX3_findHangs 158 = .ok (.aload_n 0, 1) := by decide +kernel
theorem dX3_findHangs_159 : decode cX3_findHangs 159 = .ok (.getfield 53, 3) := by decide +kernel
theorem dX3_findHangs_162 : decode cX3_findHangs 162 = .ok (.iload_n 3, 1) := by decide +kernel
theorem dX3_findHangs_163 : decode cX3_findHangs 163 = .ok (.iaload, 1) := by decide +kernel
theorem dX3_findHangs_164 : decode cX3_findHangs 164 = .ok (.iload 6, 2) := by decide +kernel
theorem dX3_findHangs_166 : decode cX3_findHangs 166 = .ok (.invokestatic 130, 3) := by decide +kernel
theorem dX3_findHangs_169 : decode cX3_findHangs 169 = .ok (.ifCond .eq 13, 3) := by decide +kernel
theorem dX3_findHangs_172 : decode cX3_findHangs 172 = .ok (.aload_n 0, 1) := by decide +kernel
theorem dX3_findHangs_173 : decode cX3_findHangs 173 = .ok (.getfield 53, 3) := by decide +kernel
theorem dX3_findHangs_176 : decode cX3_findHangs 176 = .ok (.iload 6, 2) := by decide +kernel
theorem dX3_findHangs_178 : decode cX3_findHangs 178 = .ok (.iaload, 1) := by decide +kernel
theorem dX3_findHangs_179 : decode cX3_findHangs 179 = .ok (.goto 4, 3) := by decide +kernel
theorem dX3_findHangs_182 : decode cX3_findHangs 182 = .ok (.iconst 0, 1) := by decide +kernel
theorem dX3_findHangs_183 : decode cX3_findHangs 183 = .ok (.aload_n 0, 1) := by decide +kernel
theorem dX3_findHangs_184 : decode cX3_findHangs 184 = .ok (.getfield 56, 3) := by decide +kernel
theorem dX3_findHangs_187 : decode cX3_findHangs 187 = .ok (.iload_n 3, 1) := by decide +kernel
theorem dX3_findHangs_188 : decode cX3_findHangs 188 = .ok (.iaload, 1) := by decide +kernel
theorem dX3_findHangs_189 : decode cX3_findHangs 189 = .ok (.iload 6, 2) := by decide +kernel
theorem dX3_findHangs_191 : decode cX3_findHangs 191 = .ok (.invokestatic 130, 3) := by decide +kernel
theorem dX3_findHangs_194 : decode cX3_findHangs 194 = .ok (.ifCond .eq 13, 3) := by decide +kernel
theorem dX3_findHangs_197 : decode cX3_findHangs 197 = .ok (.aload_n 0, 1) := by decide +kernel
theorem dX3_findHangs_198 : decode cX3_findHangs 198 = .ok (.getfield 56, 3) := by decide +kernel
theorem dX3_findHangs_201 : decode cX3_findHangs 201 = .ok (.iload 6, 2) := by decide +kernel
theorem dX3_findHangs_203 : decode cX3_findHangs 203 = .ok (.iaload, 1) := by decide +kernel
theorem dX3_findHangs_204 : decode cX3_findHangs 204 = .ok (.goto 4, 3) := by decide +kernel
theorem dX3_findHangs_207 : decode cX3_findHangs 207 = .ok (.iconst 0, 1) := by decide +kernel
theorem dX3_findHangs_208 : decode cX3_findHangs 208 = .ok (.ior, 1) := by decide +kernel
theorem dX3_findHangs_209 : decode cX3_findHangs 209 = .ok (.ior, 1) := by decide +kernel
theorem dX3_findHangs_210 : decode cX3_findHangs 210 = .ok (.istore 4, 2) := by decide +kernel
theorem dX3_findHangs_212 : decode cX3_findHangs 212 = .ok (.iload 5, 2) := by decide +kernel
theorem dX3_findHangs_214 : decode cX3_findHangs 214 = .ok (.aload_n 0, 1) := by decide +kernel
theorem dX3_findHangs_215 : decode cX3_findHangs 215 = .ok (.getfield 53, 3) := by decide +kernel
theorem dX3_findHangs_218 : decode cX3_findHangs 218 = .ok (.iload_n 3, 1) := by decide +kernel
theorem dX3_findHangs_219 : decode cX3_findHangs 219 = .ok (.iaload, 1) := by decide +kernel
theorem dX3_findHangs_220 : decode cX3_findHangs 220 = .ok (.iload 6, 2) := by decide +kernel
theorem dX3_findHangs_222 : decode cX3_findHangs 222 = .ok (.invokestatic 130, 3) := by decide +kernel
theorem dX3_findHangs_225 : decode cX3_findHangs 225 = .ok (.ifCond .eq 13, 3) := by decide +kernel
theorem dX3_findHangs_228 : decode cX3_findHangs 228 = .ok (.aload_n 0, 1) := by decide +kernel
theorem dX3_findHangs_229 : decode cX3_findHangs 229 = .ok (.getfield 56, 3) := by decide +kernel
theorem dX3_findHangs_232 : decode cX3_findHangs 232 = .ok (.iload 6, 2) := by decide +kernel
theorem dX3_findHangs_234 : decode cX3_findHangs 234 = .ok (.iaload, 1) := by decide +kernel
theorem dX3_findHangs_235 : decode cX3_findHangs 235 = .ok (.goto 4, 3) := by decide +kernel
theorem dX3_findHangs_238 : decode cX3_findHangs 238 = .ok (.iconst 0, 1) := by decide +kernel
theorem dX3_findHangs_239 : decode cX3_findHangs 239 = .ok (.aload_n 0, 1) := by decide +kernel
theorem dX3_findHangs_240 : decode cX3_findHangs 240 = .ok (.getfield 56, 3) := by decide +kernel
theorem dX3_findHangs_243 : decode cX3_findHangs 243 = .ok (.iload_n 3, 1) := by decide +kernel
theorem dX3_findHangs_244 : decode cX3_findHangs 244 = .ok (.iaload, 1) := by decide +kernel
theorem dX3_findHangs_245 : decode cX3_findHangs 245 = .ok (.iload 6, 2) := by decide +kernel
theorem dX3_findHangs_247 : decode cX3_findHangs 247 = .ok (.invokestatic 130, 3) := by decide +kernel
theorem dX3_findHangs_250 : decode cX3_findHangs 250 = .ok (.ifCond .eq 13, 3) := by decide +kernel
theorem dX3_findHangs_253 : decode cX3_findHangs 253 = .ok (.aload_n 0, 1) := by decide +kernel
theorem dX3_findHangs_254 : decode cX3_findHangs 254 = .ok (.getfield 53, 3) := by decide +kernel
theorem dX3_findHangs_257 : decode cX3_findHangs 257 = .ok (.iload 6, 2) := by decide +kernel
theorem dX3_findHangs_259 : decode cX3_findHangs 259 = .ok (.iaload, 1) := by decide +kernel
theorem dX3_findHangs_260 : decode cX3_findHangs 260 = .ok (.goto 4, 3) := by decide +kernel
theorem dX3_findHangs_263 : decode cX3_findHangs 263 = .ok (.iconst 0, 1) := by decide +kernel
theorem dX3_findHangs_264 : decode cX3_findHangs 264 = .ok (.ior, 1) := by decide +kernel
theorem dX3_findHangs_265 : decode cX3_findHangs 265 = .ok (.ior, 1) := by decide +kernel
theorem dX3_findHangs_266 : decode cX3_findHangs 266 = .ok (.istore 5, 2) := by decide +kernel
theorem dX3_findHangs_268 : decode cX3_findHangs 268 = .ok (.iinc 6 1, 3) := by decide +kernel
theorem dX3_findHangs_271 : decode cX3_findHangs 271 = .ok (.goto (-122), 3) := by decide +kernel
theorem dX3_findHangs_274 : decode cX3_findHangs 274 = .ok (.aload_n 0, 1) := by decide +kernel
theorem dX3_findHangs_275 : decode cX3_findHangs 275 = .ok (.getfield 53, 3) := by decide +kernel
theorem dX3_findHangs_278 : decode cX3_findHangs 278 = .ok (.iload_n 3, 1) := by decide +kernel
theorem dX3_findHangs_279 : decode cX3_findHangs 279 = .ok (.iload 4, 2) := by decide +kernel
theorem dX3_findHangs_281 : decode cX3_findHangs 281 = .ok (.iastore, 1) := by decide +kernel
theorem dX3_findHangs_282 : decode cX3_findHangs 282 = .ok (.aload_n 0, 1) := by decide +kernel
theorem dX3_findHangs_283 : decode cX3_findHangs 283 = .ok (.getfield 56, 3) := by decide +kernel
theorem dX3_findHangs_286 : decode cX3_findHangs 286 = .ok (.iload_n 3, 1) := by decide +kernel
theorem dX3_findHangs_287 : decode cX3_findHangs 287 = .ok (.iload 5, 2) := by decide +kernel
theorem dX3_findHangs_289 : decode cX3_findHangs 289 = .ok (.iastore, 1) := by decide +kernel
theorem dX3_findHangs_290 : decode cX3_findHangs 290 = .ok (.iinc 3 1, 3) := by decide +kernel
theorem dX3_findHangs_293 : decode cX3_findHangs 293 = .ok (.goto (-169), 3) := by decide +kernel
theorem dX3_findHangs_296 : decode cX3_findHangs 296 = .ok (.iinc 2 1, 3) := by decide +kernel
theorem dX3_findHangs_299 : decode cX3_findHangs 299 = .ok (.goto (-183), 3) := by decide +kernel
theorem dX3_findHangs_302 : decode cX3_findHangs 302 = .ok (.return_, 1) := by decide +kernel
set_option maxRecDepth 20000 in
theorem ggX3_hangs_X3_in : GoodIn wsX3_hangs wsX3_in := goodIn_r _ [6] (by decide +kernel) (by decide +kernel)
set_option maxRecDepth 20000 in
theorem gX3_hangs_X3_in : GoodIn wsX3_hangs (va_wsS RX3 63 yX3_in wsX3_in) := goodIn_app (goodIn_of _ (by decide +kernel)) ggX3_hangs_X3_in
set_option maxRecDepth 20000 in
theorem ggX3_hangs_X3_findHangs : GoodIn wsX3_hangs wsX3_findHangs := goodIn_r _ [10, 1, 2, 11, 12, 13, 14, 15, 16, 17, 5, 18, 19, 20, 21, 22, 23, 24, 25, 26, 27, 28, 29, 30, 31, 32, 33, 34, 35, 36, 37, 38, 39, 40, 41, 42, 43, 44] (by decide +kernel) (by decide +kernel)
set_option maxRecDepth 20000 in
theorem gX3_hangs_X3_findHangs : GoodIn wsX3_hangs (wsV RX3 156 RX3 yX3_findHangs wsX3_findHangs) := goodIn_app (goodIn_of _ (by decide +kernel)) ggX3_hangs_X3_findHangs
set_option maxRecDepth 20000 in
theorem ggX3_hangs_X3_has : GoodIn wsX3_hangs wsX3_has := goodIn_r _ [18] (by decide +kernel) (by decide +kernel)
set_option maxRecDepth 20000 in
theorem gX3_hangs_X3_has : GoodIn wsX3_hangs (va_wsS RX3 130 yX3_has wsX3_has) := goodIn_app (goodIn_of _ (by decide +kernel)) ggX3_hangs_X3_has
theorem dX3_hangs_0 : decode cX3_hangs 0 = .ok (.iload_n 1, 1) := by decide +kernel
theorem dX3_hangs_1 : decode cX3_hangs 1 = .ok (.i2l, 1) := by decide +kernel
theorem dX3_hangs_2 : decode cX3_hangs 2 = .ok (.lconst 0, 1) := by decide +kernel
theorem dX3_hangs_3 : decode cX3_hangs 3 = .ok (.lconst 1, 1) := by decide +kernel
theorem dX3_hangs_4 : decode cX3_hangs 4 = .ok (.invokestatic 63, 3) := by decide +kernel
theorem dX3_hangs_7 : decode cX3_hangs 7 = .ok (.ifCond .ne 5, 3) := by decide +kernel
theorem dX3_hangs_10 : decode cX3_hangs 10 = .ok (.iconst (-1), 1) := by decide +kernel
theorem dX3_hangs_11 : decode cX3_hangs 11 = .ok (.ireturn, 1) := by decide +kernel
theorem dX3_hangs_12 : decode cX3_hangs 12 = .ok (.aload_n 0, 1) := by decide +kernel
theorem dX3_hangs_13 : decode cX3_hangs 13 = .ok (.iload_n 1, 1) := by decide +kernel
theorem dX3_hangs_14 : decode cX3_hangs 14 = .ok (.ifCond .ne 7, 3) := by decide +kernel
theorem dX3_hangs_17 : decode cX3_hangs 17 = .ok (.iconst 1, 1) := by decide +kernel
theorem dX3_hangs_18 : decode cX3_hangs 18 = .ok (.goto 4, 3) := by decide +kernel
theorem dX3_hangs_21 : decode cX3_hangs 21 = .ok (.iconst 0, 1) := by decide +kernel
theorem dX3_hangs_22 : decode cX3_hangs 22 = .ok (.invokevirtual 156, 3) := by decide +kernel
theorem dX3_hangs_25 : decode cX3_hangs 25 = .ok (.iconst 0, 1) := by decide +kernel
theorem dX3_hangs_26 : decode cX3_hangs 26 = .ok (.istore_n 2, 1) := by decide +kernel
theorem dX3_hangs_27 : decode cX3_hangs 27 = .ok (.iconst 0, 1) := by decide +kernel
theorem dX3_hangs_28 : decode cX3_hangs 28 = .ok (.istore_n 3, 1) := by decide +kernel
theorem dX3_hangs_29 : decode cX3_hangs 29 = .ok (.iload_n 3, 1) := by decide +kernel
theorem dX3_hangs_30 : decode cX3_hangs 30 = .ok (.bipush 8, 2) := by decide +kernel
theorem dX3_hangs_32 : decode cX3_hangs 32 = .ok (.if_icmp .ge 45, 3) := by decide +kernel
theorem dX3_hangs_35 : decode cX3_hangs 35 = .ok (.iload_n 2, 1) := by decide +kernel
theorem dX3_hangs_36 : decode cX3_hangs 36 = .ok (.iload_n 1, 1) := by decide +kernel
theorem dX3_hangs_37 : decode cX3_hangs 37 = .ok (.ifCond .ne 12, 3) := by decide +kernel
theorem dX3_hangs_40 : decode cX3_hangs 40 = .ok (.aload_n 0, 1) := by decide +kernel
theorem dX3_hangs_41 : decode cX3_hangs 41 = .ok (.getfield 53, 3) := by decide +kernel
theorem dX3_hangs_44 : decode cX3_hangs 44 = .ok (.iload_n 3, 1) := by decide +kernel
theorem dX3_hangs_45 : decode cX3_hangs 45 = .ok (.iaload, 1) := by decide +kernel
theorem dX3_hangs_46 : decode cX3_hangs 46 = .ok (.goto 9, 3) := by decide +kernel
theorem dX3_hangs_49 : decode cX3_hangs 49 = .ok (.aload_n 0, 1) := by decide +kernel
theorem dX3_hangs_50 : decode cX3_hangs 50 = .ok (.getfield 56, 3) := by decide +kernel
theorem dX3_hangs_53 : decode cX3_hangs 53 = .ok (.iload_n 3, 1) := by decide +kernel
theorem dX3_hangs_54 : decode cX3_hangs 54 = .ok (.iaload, 1) := by decide +kernel
theorem dX3_hangs_55 : decode cX3_hangs 55 = .ok (.iload_n 3, 1) := by decide +kernel
theorem dX3_hangs_56 : decode cX3_hangs 56 = .ok (.invokestatic 130, 3) := by decide +kernel
theorem dX3_hangs_59 : decode cX3_hangs 59 = .ok (.ifCond .eq 9, 3) := by decide +kernel
theorem dX3_hangs_62 : decode cX3_hangs 62 = .ok (.iconst 1, 1) := by decide +kernel
theorem dX3_hangs_63 : decode cX3_hangs 63 = .ok (.iload_n 3, 1) := by decide +kernel
theorem dX3_hangs_64 : decode cX3_hangs 64 = .ok (.ishl, 1) := by decide +kernel
theorem dX3_hangs_65 : decode cX3_hangs 65 = .ok (.goto 4, 3) := by decide +kernel
theorem dX3_hangs_68 : decode cX3_hangs 68 = .ok (.iconst 0, 1) := by decide +kernel
theorem dX3_hangs_69 : decode cX3_hangs 69 = .ok (.ior, 1) := by decide +kernel
theorem dX3_hangs_70 : decode cX3_hangs 70 = .ok (.istore_n 2, 1) := by decide +kernel
theorem dX3_hangs_71 : decode cX3_hangs 71 = .ok (.iinc 3 1, 3) := by decide +kernel
theorem dX3_hangs_74 : decode cX3_hangs 74 = .ok (.goto (-45), 3) := by decide +kernel
theorem dX3_hangs_77 : decode cX3_hangs 77 = .ok (.iload_n 2, 1) := by decide +kernel
theorem dX3_hangs_78 : decode cX3_hangs 78 = .ok (.ireturn, 1) := by decide +kernel
set_option maxRecDepth 20000 in
theorem ggX3_isInSome_X3_has : GoodIn wsX3_isInSome wsX3_has := goodIn_r _ [5] (by decide +kernel) (by decide +kernel)
set_option maxRecDepth 20000 in
theorem gX3_isInSome_X3_has : GoodIn wsX3_isInSome (va_wsS RX3 130 yX3_has wsX3_has) := goodIn_app (goodIn_of _ (by decide +kernel)) ggX3_isInSome_X3_has
set_option maxRecDepth 20000 in
theorem ggX3_isInSome_X3_doesStand : GoodIn wsX3_isInSome wsX3_doesStand := goodIn_r _ [9, 10, 11, 12, 13, 4, 14, 15, 16, 17, 18, 2, 3, 5, 19, 20, 21, 22, 23, 24, 25, 26, 27, 28, 29, 30, 31, 32, 33, 34, 35, 36, 37, 38, 39, 40, 41, 42, 43, 44, 45, 46, 47, 48, 49, 50] (by decide +kernel) (by decide +kernel)
set_option maxRecDepth 20000 in
theorem gX3_isInSome_X3_doesStand : GoodIn wsX3_isInSome (wsV RX3 141 RX3 yX3_doesStand wsX3_doesStand) := goodIn_app (goodIn_of _ (by decide +kernel)) ggX3_isInSome_X3_doesStand
theorem dX3_isInSome_0 : decode cX3_isInSome 0 = .ok (.sipush 255, 3) := by decide +kernel
theorem dX3_isInSome_3 : decode cX3_isInSome 3 = .ok (.istore_n 3, 1) := by decide +kernel
theorem dX3_isInSome_4 : decode cX3_isInSome 4 = .ok (.iload_n 3, 1) := by decide +kernel
theorem dX3_isInSome_5 : decode cX3_isInSome 5 = .ok (.ifCond .lt 32, 3) := by decide +kernel
theorem dX3_isInSome_8 : decode cX3_isInSome 8 = .ok (.iload_n 3, 1) := by decide +kernel
theorem dX3_isInSome_9 : decode cX3_isInSome 9 = .ok (.iload_n 1, 1) := by decide +kernel
theorem dX3_isInSome_10 : decode cX3_isInSome 10 = .ok (.invokestatic 130, 3) := by decide +kernel
theorem dX3_isInSome_13 : decode cX3_isInSome 13 = .ok (.ifCond .eq 18, 3) := by decide +kernel
theorem dX3_isInSome_16 : decode cX3_isInSome 16 = .ok (.aload_n 0, 1) := by decide +kernel
theorem dX3_isInSome_17 : decode cX3_isInSome 17 = .ok (.iload_n 3, 1) := by decide +kernel
theorem dX3_isInSome_18 : decode cX3_isInSome 18 = .ok (.aload_n 0, 1) := by decide +kernel
theorem dX3_isInSome_19 : decode cX3_isInSome 19 = .ok (.getfield 114, 3) := by decide +kernel
theorem dX3_isInSome_22 : decode cX3_isInSome 22 = .ok (.iload_n 2, 1) := by decide +kernel
theorem dX3_isInSome_23 : decode cX3_isInSome 23 = .ok (.invokevirtual 141, 3) := by decide +kernel
theorem dX3_isInSome_26 : decode cX3_isInSome 26 = .ok (.ifCond .eq 5, 3) := by decide +kernel
theorem dX3_isInSome_29 : decode cX3_isInSome 29 = .ok (.iconst 1, 1) := by decide +kernel
theorem dX3_isInSome_30 : decode cX3_isInSome 30 = .ok (.ireturn, 1) := by decide +kernel
theorem dX3_isInSome_31 : decode cX3_isInSome 31 = .ok (.iinc 3 (-1), 3) := by decide +kernel
theorem dX3_isInSome_34 : decode cX3_isInSome 34 = .ok (.goto (-30), 3) := by decide +kernel
theorem dX3_isInSome_37 : decode cX3_isInSome 37 = .ok (.iconst 0, 1) := by decide +kernel
theorem dX3_isInSome_38 : decode cX3_isInSome 38 = .ok (.ireturn, 1) := by decide +kernel
set_option maxRecDepth 20000 in
theorem ggX3_explains_X3_in : GoodIn wsX3_explains wsX3_in := goodIn_r _ [7] (by decide +kernel) (by decide +kernel)
set_option maxRecDepth 20000 in
theorem gX3_explains_X3_in : GoodIn wsX3_explains (va_wsS RX3 63 yX3_in wsX3_in) := goodIn_app (goodIn_of _ (by decide +kernel)) ggX3_explains_X3_in
set_option maxRecDepth 20000 in
theorem ggX3_explains_X3_ones : GoodIn wsX3_explains wsX3_ones := goodIn_r _ [10] (by decide +kernel) (by decide +kernel)
set_option maxRecDepth 20000 in
theorem gX3_explains_X3_ones : GoodIn wsX3_explains (va_wsS RX3 160 yX3_ones wsX3_ones) := goodIn_app (goodIn_of _ (by decide +kernel)) ggX3_explains_X3_ones
set_option maxRecDepth 20000 in
theorem ggX3_explains_X3_isInSome : GoodIn wsX3_explains wsX3_isInSome := goodIn_r _ [14, 15, 16, 17, 6, 18, 19, 20, 21, 22, 23, 24, 25, 26, 27, 28, 29, 30, 31, 32, 33, 34, 35, 36, 37, 38, 39, 40, 41, 42, 43, 44, 45, 46, 47, 48, 49, 50, 51, 52, 53, 54, 55, 56, 57, 58, 59, 60, 61, 62, 63] (by decide +kernel) (by decide +kernel)
set_option maxRecDepth 20000 in
theorem gX3_explains_X3_isInSome : GoodIn wsX3_explains (wsV RX3 163 RX3 yX3_isInSome wsX3_isInSome) := goodIn_app (goodIn_of _ (by decide +kernel)) ggX3_explains_X3_isInSome
theorem dX3_explains_0 : decode cX3_explains 0 = .ok (.iload_n 1, 1) := by decide +kernel
theorem dX3_explains_1 : decode cX3_explains 1 = .ok (.i2l, 1) := by decide +kernel
theorem dX3_explains_2 : decode cX3_explains 2 = .ok (.lconst 0, 1) := by decide +kernel
theorem dX3_explains_3 : decode cX3_explains 3 = .ok (.ldc2_w 128, 3) := by decide +kernel
theorem dX3_explains_6 : decode cX3_explains 6 = .ok (.invokestatic 63, 3) := by decide +kernel
theorem dX3_explains_9 : decode cX3_explains 9 = .ok (.ifCond .eq 15, 3) := by decide +kernel
theorem dX3_explains_12 : decode cX3_explains 12 = .ok (.iload_n 2, 1) := by decide +kernel
theorem dX3_explains_13 : decode cX3_explains 13 = .ok (.i2l, 1) := by decide +kernel
theorem dX3_explains_14 : decode cX3_explains 14 = .ok (.lconst 0, 1) := by decide +kernel
theorem dX3_explains_15 : decode cX3_explains 15 = .ok (.ldc2_w 72, 3) := by decide +kernel
theorem dX3_explains_18 : decode cX3_explains 18 = .ok (.invokestatic 63, 3) := by decide +kernel
theorem dX3_explains_21 : decode cX3_explains 21 = .ok (.ifCond .ne 5, 3) := by decide +kernel
theorem dX3_explains_24 : decode cX3_explains 24 = .ok (.iconst (-1), 1) := by decide +kernel
theorem dX3_explains_25 : decode cX3_explains 25 = .ok (.ireturn, 1) := by decide +kernel
theorem dX3_explains_26 : decode cX3_explains 26 = .ok (.bipush (-9), 2) := by decide +kernel
theorem dX3_explains_28 : decode cX3_explains 28 = .ok (.istore_n 3, 1) := by decide +kernel
theorem dX3_explains_29 : decode cX3_explains 29 = .ok (.iconst 0, 1) := by decide +kernel
theorem dX3_explains_30 : decode cX3_explains 30 = .ok (.istore 4, 2) := by decide +kernel
theorem dX3_explains_32 : decode cX3_explains 32 = .ok (.iload 4, 2) := by decide +kernel
theorem dX3_explains_34 : decode cX3_explains 34 = .ok (.iload_n 2, 1) := by decide +kernel
theorem dX3_explains_35 : decode cX3_explains 35 = .ok (.if_icmp .gt 68, 3) := by decide +kernel
theorem dX3_explains_38 : decode cX3_explains 38 = .ok (.iload 4, 2) := by decide +kernel
theorem dX3_explains_40 : decode cX3_explains 40 = .ok (.invokestatic 160, 3) := by decide +kernel
theorem dX3_explains_43 : decode cX3_explains 43 = .ok (.iload_n 3, 1) := by decide +kernel
theorem dX3_explains_44 : decode cX3_explains 44 = .ok (.ifCond .ge 7, 3) := by decide +kernel
theorem dX3_explains_47 : decode cX3_explains 47 = .ok (.iconst 4, 1) := by decide +kernel
theorem dX3_explains_48 : decode cX3_explains 48 = .ok (.goto 7, 3) := by decide +kernel
theorem dX3_explains_51 : decode cX3_explains 51 = .ok (.iload_n 3, 1) := by decide +kernel
theorem dX3_explains_52 : decode cX3_explains 52 = .ok (.invokestatic 160, 3) := by decide +kernel
theorem dX3_explains_55 : decode cX3_explains 55 = .ok (.if_icmp .ge 7, 3) := by decide +kernel
theorem dX3_explains_58 : decode cX3_explains 58 = .ok (.iconst 1, 1) := by decide +kernel
theorem dX3_explains_59 : decode cX3_explains 59 = .ok (.goto 4, 3) := by decide +kernel
theorem dX3_explains_62 : decode cX3_explains 62 = .ok (.iconst 0, 1) := by decide +kernel
theorem dX3_explains_63 : decode cX3_explains 63 = .ok (.istore 5, 2) := by decide +kernel
theorem dX3_explains_65 : decode cX3_explains 65 = .ok (.iload 4, 2) := by decide +kernel
theorem dX3_explains_67 : decode cX3_explains 67 = .ok (.iload_n 2, 1) := by decide +kernel
theorem dX3_explains_68 : decode cX3_explains 68 = .ok (.iconst (-1), 1) := by decide +kernel
theorem dX3_explains_69 : decode cX3_explains 69 = .ok (.ixor, 1) := by decide +kernel
theorem dX3_explains_70 : decode cX3_explains 70 = .ok (.iand, 1) := by decide +kernel
theorem dX3_explains_71 : decode cX3_explains 71 = .ok (.ifCond .ne 26, 3) := by decide +kernel
theorem dX3_explains_74 : decode cX3_explains 74 = .ok (.iload 5, 2) := by decide +kernel
theorem dX3_explains_76 : decode cX3_explains 76 = .ok (.ifCond .eq 21, 3) := by decide +kernel
theorem dX3_explains_79 : decode cX3_explains 79 = .ok (.aload_n 0, 1) := by decide +kernel
theorem dX3_explains_80 : decode cX3_explains 80 = .ok (.iload_n 1, 1) := by decide +kernel
theorem dX3_explains_81 : decode cX3_explains 81 = .ok (.aload_n 0, 1) := by decide +kernel
theorem dX3_explains_82 : decode cX3_explains 82 = .ok (.getfield 120, 3) := by decide +kernel
theorem dX3_explains_85 : decode cX3_explains 85 = .ok (.iload 4, 2) := by decide +kernel
theorem dX3_explains_87 : decode cX3_explains 87 = .ok (.ior, 1) := by decide +kernel
theorem dX3_explains_88 : decode cX3_explains 88 = .ok (.invokevirtual 163, 3) := by decide +kernel
theorem dX3_explains_91 : decode cX3_explains 91 = .ok (.ifCond .eq 6, 3) := by decide +kernel
theorem dX3_explains_94 : decode cX3_explains 94 = .ok (.iload 4, 2) := by decide +kernel
theorem dX3_explains_96 : decode cX3_explains 96 = .ok (.istore_n 3, 1) := by decide +kernel
theorem dX3_explains_97 : decode cX3_explains 97 = .ok (.iinc 4 1, 3) := by decide +kernel
theorem dX3_explains_100 : decode cX3_explains 100 = .ok (.goto (-68), 3) := by decide +kernel
theorem dX3_explains_103 : decode cX3_explains 103 = .ok (.iload_n 3, 1) := by decide +kernel
theorem dX3_explains_104 : decode cX3_explains 104 = .ok (.ireturn, 1) := by decide +kernel
set_option maxRecDepth 20000 in
theorem ggX3_isAny_X3_doesStand : GoodIn wsX3_isAny wsX3_doesStand := goodIn_r _ [6, 7, 8, 9, 10, 5, 11, 12, 13, 14, 15, 16, 17, 18, 19, 20, 21, 22, 23, 24, 25, 26, 27, 28, 29, 30, 31, 32, 33, 34, 35, 36, 37, 38, 39, 40, 41, 42, 43, 44, 45, 46, 47, 48, 49, 50] (by decide +kernel) (by decide +kernel)
set_option maxRecDepth 20000 in
theorem gX3_isAny_X3_doesStand : GoodIn wsX3_isAny (wsV RX3 141 RX3 yX3_doesStand wsX3_doesStand) := goodIn_app (goodIn_of _ (by decide +kernel)) ggX3_isAny_X3_doesStand
theorem dX3_isAny_0 : decode cX3_isAny 0 = .ok (.iconst 0, 1) := by decide +kernel
theorem dX3_isAny_1 : decode cX3_isAny 1 = .ok (.istore_n 2, 1) := by decide +kernel
theorem dX3_isAny_2 : decode cX3_isAny 2 = .ok (.iload_n 2, 1) := by decide +kernel
theorem dX3_isAny_3 : decode cX3_isAny 3 = .ok (.sipush 255, 3) := by decide +kernel
theorem dX3_isAny_6 : decode cX3_isAny 6 = .ok (.if_icmp .gt 24, 3) := by decide +kernel
theorem dX3_isAny_9 : decode cX3_isAny 9 = .ok (.aload_n 0, 1) := by decide +kernel
theorem dX3_isAny_10 : decode cX3_isAny 10 = .ok (.iload_n 2, 1) := by decide +kernel
theorem dX3_isAny_11 : decode cX3_isAny 11 = .ok (.iload_n 1, 1) := by decide +kernel
theorem dX3_isAny_12 : decode cX3_isAny 12 = .ok (.aload_n 0, 1) := by decide +kernel
theorem dX3_isAny_13 : decode cX3_isAny 13 = .ok (.getfield 120, 3) := by decide +kernel
theorem dX3_isAny_16 : decode cX3_isAny 16 = .ok (.invokevirtual 141, 3) := by decide +kernel
theorem dX3_isAny_19 : decode cX3_isAny 19 = .ok (.ifCond .eq 5, 3) := by decide +kernel
theorem dX3_isAny_22 : decode cX3_isAny 22 = .ok (.iconst 1, 1) := by decide +kernel
theorem dX3_isAny_23 : decode cX3_isAny 23 = .ok (.ireturn, 1) := by decide +kernel
theorem dX3_isAny_24 : decode cX3_isAny 24 = .ok (.iinc 2 1, 3) := by decide +kernel
theorem dX3_isAny_27 : decode cX3_isAny 27 = .ok (.goto (-25), 3) := by decide +kernel
theorem dX3_isAny_30 : decode cX3_isAny 30 = .ok (.iconst 0, 1) := by decide +kernel
theorem dX3_isAny_31 : decode cX3_isAny 31 = .ok (.ireturn, 1) := by decide +kernel
set_option maxRecDepth 20000 in
theorem ggX3_givesUp_X3_ones : GoodIn wsX3_givesUp wsX3_ones := goodIn_r _ [5] (by decide +kernel) (by decide +kernel)
set_option maxRecDepth 20000 in
theorem gX3_givesUp_X3_ones : GoodIn wsX3_givesUp (va_wsS RX3 160 yX3_ones wsX3_ones) := goodIn_app (goodIn_of _ (by decide +kernel)) ggX3_givesUp_X3_ones
set_option maxRecDepth 20000 in
theorem ggX3_givesUp_X3_isAny : GoodIn wsX3_givesUp wsX3_isAny := goodIn_r _ [9, 10, 11, 12, 13, 4, 14, 15, 16, 17, 18, 19, 20, 21, 22, 23, 24, 25, 26, 27, 28, 29, 30, 31, 32, 33, 34, 35, 36, 37, 38, 39, 40, 41, 42, 43, 44, 45, 46, 47, 48, 49, 50, 51, 52, 53, 54, 55, 56, 57, 58] (by decide +kernel) (by decide +kernel)
set_option maxRecDepth 20000 in
theorem gX3_givesUp_X3_isAny : GoodIn wsX3_givesUp (wsV RX3 166 RX3 yX3_isAny wsX3_isAny) := goodIn_app (goodIn_of _ (by decide +kernel)) ggX3_givesUp_X3_isAny
theorem dX3_givesUp_0 : decode cX3_givesUp 0 = .ok (.bipush (-9), 2) := by decide +kernel
theorem dX3_givesUp_2 : decode cX3_givesUp 2 = .ok (.istore_n 1, 1) := by decide +kernel
theorem dX3_givesUp_3 : decode cX3_givesUp 3 = .ok (.iconst 0, 1) := by decide +kernel
theorem dX3_givesUp_4 : decode cX3_givesUp 4 = .ok (.istore_n 2, 1) := by decide +kernel
theorem dX3_givesUp_5 : decode cX3_givesUp 5 = .ok (.iload_n 2, 1) := by decide +kernel
theorem dX3_givesUp_6 : decode cX3_givesUp 6 = .ok (.aload_n 0, 1) := by decide +kernel
theorem dX3_givesUp_7 : decode cX3_givesUp 7 = .ok (.getfield 114, 3) := by decide +kernel
theorem dX3_givesUp_10 : decode cX3_givesUp 10 = .ok (.if_icmp .gt 66, 3) := by decide +kernel
theorem dX3_givesUp_13 : decode cX3_givesUp 13 = .ok (.iload_n 2, 1) := by decide +kernel
theorem dX3_givesUp_14 : decode cX3_givesUp 14 = .ok (.invokestatic 160, 3) := by decide +kernel
theorem dX3_givesUp_17 : decode cX3_givesUp 17 = .ok (.iload_n 1, 1) := by decide +kernel
theorem dX3_givesUp_18 : decode cX3_givesUp 18 = .ok (.ifCond .ge 7, 3) := by decide +kernel
theorem dX3_givesUp_21 : decode cX3_givesUp 21 = .ok (.iconst 4, 1) := by decide +kernel
theorem dX3_givesUp_22 : decode cX3_givesUp 22 = .ok (.goto 7, 3) := by decide +kernel
theorem dX3_givesUp_25 : decode cX3_givesUp 25 = .ok (.iload_n 1, 1) := by decide +kernel
theorem dX3_givesUp_26 : decode cX3_givesUp 26 = .ok (.invokestatic 160, 3) := by decide +kernel
theorem dX3_givesUp_29 : decode cX3_givesUp 29 = .ok (.if_icmp .ge 7, 3) := by decide +kernel
theorem dX3_givesUp_32 : decode cX3_givesUp 32 = .ok (.iconst 1, 1) := by decide +kernel
theorem dX3_givesUp_33 : decode cX3_givesUp 33 = .ok (.goto 4, 3) := by decide +kernel
theorem dX3_givesUp_36 : decode cX3_givesUp 36 = .ok (.iconst 0, 1) := by decide +kernel
theorem dX3_givesUp_37 : decode cX3_givesUp 37 = .ok (.istore_n 3, 1) := by decide +kernel
theorem dX3_givesUp_38 : decode cX3_givesUp 38 = .ok (.iload_n 2, 1) := by decide +kernel
theorem dX3_givesUp_39 : decode cX3_givesUp 39 = .ok (.aload_n 0, 1) := by decide +kernel
theorem dX3_givesUp_40 : decode cX3_givesUp 40 = .ok (.getfield 114, 3) := by decide +kernel
theorem dX3_givesUp_43 : decode cX3_givesUp 43 = .ok (.iconst (-1), 1) := by decide +kernel
theorem dX3_givesUp_44 : decode cX3_givesUp 44 = .ok (.ixor, 1) := by decide +kernel
theorem dX3_givesUp_45 : decode cX3_givesUp 45 = .ok (.iand, 1) := by decide +kernel
theorem dX3_givesUp_46 : decode cX3_givesUp 46 = .ok (.ifCond .ne 24, 3) := by decide +kernel
theorem dX3_givesUp_49 : decode cX3_givesUp 49 = .ok (.iload_n 3, 1) := by decide +kernel
theorem dX3_givesUp_50 : decode cX3_givesUp 50 = .ok (.ifCond .eq 20, 3) := by decide +kernel
theorem dX3_givesUp_53 : decode cX3_givesUp 53 = .ok (.aload_n 0, 1) := by decide +kernel
theorem dX3_givesUp_54 : decode cX3_givesUp 54 = .ok (.aload_n 0, 1) := by decide +kernel
theorem dX3_givesUp_55 : decode cX3_givesUp 55 = .ok (.getfield 114, 3) := by decide +kernel
theorem dX3_givesUp_58 : decode cX3_givesUp 58 = .ok (.iload_n 2, 1) := by decide +kernel
theorem dX3_givesUp_59 : decode cX3_givesUp 59 = .ok (.iconst (-1), 1) := by decide +kernel
theorem dX3_givesUp_60 : decode cX3_givesUp 60 = .ok (.ixor, 1) := by decide +kernel
theorem dX3_givesUp_61 : decode cX3_givesUp 61 = .ok (.iand, 1) := by decide +kernel
theorem dX3_givesUp_62 : decode cX3_givesUp 62 = .ok (.invokevirtual 166, 3) := by decide +kernel
theorem dX3_givesUp_65 : decode cX3_givesUp 65 = .ok (.ifCond .eq 5, 3) := by decide +kernel
theorem dX3_givesUp_68 : decode cX3_givesUp 68 = .ok (.iload_n 2, 1) := by decide +kernel
theorem dX3_givesUp_69 : decode cX3_givesUp 69 = .ok (.istore_n 1, 1) := by decide +kernel
theorem dX3_givesUp_70 : decode cX3_givesUp 70 = .ok (.iinc 2 1, 3) := by decide +kernel
theorem dX3_givesUp_73 : decode cX3_givesUp 73 = .ok (.goto (-68), 3) := by decide +kernel
theorem dX3_givesUp_76 : decode cX3_givesUp 76 = .ok (.iload_n 1, 1) := by decide +kernel
theorem dX3_givesUp_77 : decode cX3_givesUp 77 = .ok (.ireturn, 1) := by decide +kernel
set_option maxRecDepth 20000 in
theorem ggX3_areSame_X3_findAll : GoodIn wsX3_areSame wsX3_findAll := goodIn_r _ [9, 10, 11, 12, 8, 13, 14, 15, 16, 17, 18, 19, 20, 21, 22, 23, 24, 25, 26, 27, 28, 29, 30, 31, 32, 33, 34, 35, 36, 37, 38, 39, 40, 41, 42, 43, 44, 45, 46, 47, 48, 49, 50, 51, 52, 53, 54, 55, 56, 57] (by decide +kernel) (by decide +kernel)
set_option maxRecDepth 20000 in
theorem gX3_areSame_X3_findAll : GoodIn wsX3_areSame (wsV RX3 145 RX3 yX3_findAll wsX3_findAll) := goodIn_app (goodIn_of _ (by decide +kernel)) ggX3_areSame_X3_findAll
theorem dX3_areSame_0 : decode cX3_areSame 0 = .ok (.aload_n 0, 1) := by decide +kernel
theorem dX3_areSame_1 : decode cX3_areSame 1 = .ok (.aload_n 0, 1) := by decide +kernel
theorem dX3_areSame_2 : decode cX3_areSame 2 = .ok (.getfield 47, 3) := by decide +kernel
theorem dX3_areSame_5 : decode cX3_areSame 5 = .ok (.aload_n 0, 1) := by decide +kernel
theorem dX3_areSame_6 : decode cX3_areSame 6 = .ok (.getfield 114, 3) := by decide +kernel
theorem dX3_areSame_9 : decode cX3_areSame 9 = .ok (.aload_n 0, 1) := by decide +kernel
theorem dX3_areSame_10 : decode cX3_areSame 10 = .ok (.getfield 120, 3) := by decide +kernel
theorem dX3_areSame_13 : decode cX3_areSame 13 = .ok (.invokevirtual 145, 3) := by decide +kernel
theorem dX3_areSame_16 : decode cX3_areSame 16 = .ok (.pop, 1) := by decide +kernel
theorem dX3_areSame_17 : decode cX3_areSame 17 = .ok (.aload_n 0, 1) := by decide +kernel
theorem dX3_areSame_18 : decode cX3_areSame 18 = .ok (.aload_n 0, 1) := by decide +kernel
theorem dX3_areSame_19 : decode cX3_areSame 19 = .ok (.getfield 50, 3) := by decide +kernel
theorem dX3_areSame_22 : decode cX3_areSame 22 = .ok (.iload_n 1, 1) := by decide +kernel
theorem dX3_areSame_23 : decode cX3_areSame 23 = .ok (.iload_n 2, 1) := by decide +kernel
theorem dX3_areSame_24 : decode cX3_areSame 24 = .ok (.invokevirtual 145, 3) := by decide +kernel
theorem dX3_areSame_27 : decode cX3_areSame 27 = .ok (.pop, 1) := by decide +kernel
theorem dX3_areSame_28 : decode cX3_areSame 28 = .ok (.iconst 1, 1) := by decide +kernel
theorem dX3_areSame_29 : decode cX3_areSame 29 = .ok (.istore_n 3, 1) := by decide +kernel
theorem dX3_areSame_30 : decode cX3_areSame 30 = .ok (.iconst 0, 1) := by decide +kernel
theorem dX3_areSame_31 : decode cX3_areSame 31 = .ok (.istore 4, 2) := by decide +kernel
theorem dX3_areSame_33 : decode cX3_areSame 33 = .ok (.iload 4, 2) := by decide +kernel
theorem dX3_areSame_35 : decode cX3_areSame 35 = .ok (.bipush 8, 2) := by decide +kernel
theorem dX3_areSame_37 : decode cX3_areSame 37 = .ok (.if_icmp .ge 36, 3) := by decide +kernel
theorem dX3_areSame_40 : decode cX3_areSame 40 = .ok (.iload_n 3, 1) := by decide +kernel
theorem dX3_areSame_41 : decode cX3_areSame 41 = .ok (.ifCond .eq 24, 3) := by decide +kernel
theorem dX3_areSame_44 : decode cX3_areSame 44 = .ok (.aload_n 0, 1) := by decide +kernel
theorem dX3_areSame_45 : decode cX3_areSame 45 = .ok (.getfield 47, 3) := by decide +kernel
theorem dX3_areSame_48 : decode cX3_areSame 48 = .ok (.iload 4, 2) := by decide +kernel
theorem dX3_areSame_50 : decode cX3_areSame 50 = .ok (.iaload, 1) := by decide +kernel
theorem dX3_areSame_51 : decode cX3_areSame 51 = .ok (.aload_n 0, 1) := by decide +kernel
theorem dX3_areSame_52 : decode cX3_areSame 52 = .ok (.getfield 50, 3) := by decide +kernel
theorem dX3_areSame_55 : decode cX3_areSame 55 = .ok (.iload 4, 2) := by decide +kernel
theorem dX3_areSame_57 : decode cX3_areSame 57 = .ok (.iaload, 1) := by decide +kernel
theorem dX3_areSame_58 : decode cX3_areSame 58 = .ok (.if_icmp .ne 7, 3) := by decide +kernel
theorem dX3_areSame_61 : decode cX3_areSame 61 = .ok (.iconst 1, 1) := by decide +kernel
theorem dX3_areSame_62 : decode cX3_areSame 62 = .ok (.goto 4, 3) := by decide +kernel
theorem dX3_areSame_65 : decode cX3_areSame 65 = .ok (.iconst 0, 1) := by decide +kernel
theorem dX3_areSame_66 : decode cX3_areSame 66 = .ok (.istore_n 3, 1) := by decide +kernel
theorem dX3_areSame_67 : decode cX3_areSame 67 = .ok (.iinc 4 1, 3) := by decide +kernel
theorem dX3_areSame_70 : decode cX3_areSame 70 = .ok (.goto (-37), 3) := by decide +kernel
theorem dX3_areSame_73 : decode cX3_areSame 73 = .ok (.iload_n 3, 1) := by decide +kernel
theorem dX3_areSame_74 : decode cX3_areSame 74 = .ok (.ireturn, 1) := by decide +kernel
set_option maxRecDepth 20000 in
theorem ggX3_idle_X3_isRule : GoodIn wsX3_idle wsX3_isRule := goodIn_r _ [7, 8, 9, 10, 6, 11, 43, 44, 45, 46, 47, 48, 49, 50, 51, 52, 53, 54, 55, 56, 57, 58, 59, 60, 61, 62, 63, 64, 65, 66, 67, 68] (by decide +kernel) (by decide +kernel)
set_option maxRecDepth 20000 in
theorem gX3_idle_X3_isRule : GoodIn wsX3_idle (wsV RX3 123 RX3 yX3_isRule wsX3_isRule) := goodIn_app (goodIn_of _ (by decide +kernel)) ggX3_idle_X3_isRule
set_option maxRecDepth 20000 in
theorem ggX3_idle_X3_has : GoodIn wsX3_idle wsX3_has := goodIn_r _ [14] (by decide +kernel) (by decide +kernel)
set_option maxRecDepth 20000 in
theorem gX3_idle_X3_has : GoodIn wsX3_idle (va_wsS RX3 130 yX3_has wsX3_has) := goodIn_app (goodIn_of _ (by decide +kernel)) ggX3_idle_X3_has
set_option maxRecDepth 20000 in
theorem ggX3_idle_X3_areSame : GoodIn wsX3_idle wsX3_areSame := goodIn_r _ [18, 19, 1, 2, 20, 21, 22, 23, 6, 24, 25, 26, 27, 28, 29, 30, 31, 32, 33, 8, 34, 35, 36, 12, 13, 14, 37, 38, 39, 40, 41, 42, 43, 44, 45, 46, 47, 48, 49, 50, 51, 52, 53, 54, 55, 56, 57, 58, 59, 60, 61, 62, 63, 64, 65, 66, 67, 68] (by decide +kernel) (by decide +kernel)
set_option maxRecDepth 20000 in
theorem gX3_idle_X3_areSame : GoodIn wsX3_idle (wsV RX3 169 RX3 yX3_areSame wsX3_areSame) := goodIn_app (goodIn_of _ (by decide +kernel)) ggX3_idle_X3_areSame
theorem dX3_idle_0 : decode cX3_idle 0 = .ok (.aload_n 0, 1) := by decide +kernel
theorem dX3_idle_1 : decode cX3_idle 1 = .ok (.iload_n 1, 1) := by decide +kernel
theorem dX3_idle_2 : decode cX3_idle 2 = .ok (.invokevirtual 123, 3) := by decide +kernel
theorem dX3_idle_5 : decode cX3_idle 5 = .ok (.ifCond .ne 5, 3) := by decide +kernel
