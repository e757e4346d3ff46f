theorem dX3_init_0 : decode cX3_init 0 = .ok (.aload_n 0, 1) := by decide +kernel
theorem dX3_init_1 : decode cX3_init 1 = .ok (.invokespecial 1, 3) := by decide +kernel
theorem dX3_init_4 : decode cX3_init 4 = .ok (.aload_n 0, 1) := by decide +kernel
theorem dX3_init_5 : decode cX3_init 5 = .ok (.bipush 10, 2) := by decide +kernel
theorem dX3_init_7 : decode cX3_init 7 = .ok (.newarray .int, 2) := by decide +kernel
theorem dX3_init_9 : decode cX3_init 9 = .ok (.putfield 7, 3) := by decide +kernel
theorem dX3_init_12 : decode cX3_init 12 = .ok (.aload_n 0, 1) := by decide +kernel
theorem dX3_init_13 : decode cX3_init 13 = .ok (.bipush 10, 2) := by decide +kernel
theorem dX3_init_15 : decode cX3_init 15 = .ok (.newarray .int, 2) := by decide +kernel
theorem dX3_init_17 : decode cX3_init 17 = .ok (.putfield 13, 3) := by decide +kernel
theorem dX3_init_20 : decode cX3_init 20 = .ok (.aload_n 0, 1) := by decide +kernel
theorem dX3_init_21 : decode cX3_init 21 = .ok (.bipush 10, 2) := by decide +kernel
theorem dX3_init_23 : decode cX3_init 23 = .ok (.newarray .int, 2) := by decide +kernel
theorem dX3_init_25 : decode cX3_init 25 = .ok (.putfield 16, 3) := by decide +kernel
theorem dX3_init_28 : decode cX3_init 28 = .ok (.aload_n 0, 1) := by decide +kernel
theorem dX3_init_29 : decode cX3_init 29 = .ok (.sipush 300, 3) := by decide +kernel
theorem dX3_init_32 : decode cX3_init 32 = .ok (.newarray .int, 2) := by decide +kernel
theorem dX3_init_34 : decode cX3_init 34 = .ok (.putfield 19, 3) := by decide +kernel
theorem dX3_init_37 : decode cX3_init 37 = .ok (.aload_n 0, 1) := by decide +kernel
theorem dX3_init_38 : decode cX3_init 38 = .ok (.iconst 2, 1) := by decide +kernel
theorem dX3_init_39 : decode cX3_init 39 = .ok (.newarray .boolean, 2) := by decide +kernel
theorem dX3_init_41 : decode cX3_init 41 = .ok (.putfield 22, 3) := by decide +kernel
theorem dX3_init_44 : decode cX3_init 44 = .ok (.aload_n 0, 1) := by decide +kernel
theorem dX3_init_45 : decode cX3_init 45 = .ok (.iconst 2, 1) := by decide +kernel
theorem dX3_init_46 : decode cX3_init 46 = .ok (.newarray .int, 2) := by decide +kernel
theorem dX3_init_48 : decode cX3_init 48 = .ok (.putfield 26, 3) := by decide +kernel
theorem dX3_init_51 : decode cX3_init 51 = .ok (.aload_n 0, 1) := by decide +kernel
theorem dX3_init_52 : decode cX3_init 52 = .ok (.iconst 2, 1) := by decide +kernel
theorem dX3_init_53 : decode cX3_init 53 = .ok (.newarray .int, 2) := by decide +kernel
theorem dX3_init_55 : decode cX3_init 55 = .ok (.putfield 29, 3) := by decide +kernel
theorem dX3_init_58 : decode cX3_init 58 = .ok (.aload_n 0, 1) := by decide +kernel
theorem dX3_init_59 : decode cX3_init 59 = .ok (.bipush 10, 2) := by decide +kernel
theorem dX3_init_61 : decode cX3_init 61 = .ok (.newarray .int, 2) := by decide +kernel
theorem dX3_init_63 : decode cX3_init 63 = .ok (.putfield 32, 3) := by decide +kernel
theorem dX3_init_66 : decode cX3_init 66 = .ok (.aload_n 0, 1) := by decide +kernel
theorem dX3_init_67 : decode cX3_init 67 = .ok (.bipush 10, 2) := by decide +kernel
theorem dX3_init_69 : decode cX3_init 69 = .ok (.newarray .int, 2) := by decide +kernel
theorem dX3_init_71 : decode cX3_init 71 = .ok (.putfield 35, 3) := by decide +kernel
theorem dX3_init_74 : decode cX3_init 74 = .ok (.aload_n 0, 1) := by decide +kernel
theorem dX3_init_75 : decode cX3_init 75 = .ok (.bipush 10, 2) := by decide +kernel
theorem dX3_init_77 : decode cX3_init 77 = .ok (.newarray .int, 2) := by decide +kernel
theorem dX3_init_79 : decode cX3_init 79 = .ok (.putfield 38, 3) := by decide +kernel
theorem dX3_init_82 : decode cX3_init 82 = .ok (.aload_n 0, 1) := by decide +kernel
theorem dX3_init_83 : decode cX3_init 83 = .ok (.bipush 8, 2) := by decide +kernel
theorem dX3_init_85 : decode cX3_init 85 = .ok (.newarray .int, 2) := by decide +kernel
theorem dX3_init_87 : decode cX3_init 87 = .ok (.putfield 41, 3) := by decide +kernel
theorem dX3_init_90 : decode cX3_init 90 = .ok (.aload_n 0, 1) := by decide +kernel
theorem dX3_init_91 : decode cX3_init 91 = .ok (.bipush 8, 2) := by decide +kernel
theorem dX3_init_93 : decode cX3_init 93 = .ok (.newarray .int, 2) := by decide +kernel
theorem dX3_init_95 : decode cX3_init 95 = .ok (.putfield 44, 3) := by decide +kernel
theorem dX3_init_98 : decode cX3_init 98 = .ok (.aload_n 0, 1) := by decide +kernel
theorem dX3_init_99 : decode cX3_init 99 = .ok (.bipush 8, 2) := by decide +kernel
theorem dX3_init_101 : decode cX3_init 101 = .ok (.newarray .int, 2) := by decide +kernel
theorem dX3_init_103 : decode cX3_init 103 = .ok (.putfield 47, 3) := by decide +kernel
theorem dX3_init_106 : decode cX3_init 106 = .ok (.aload_n 0, 1) := by decide +kernel
theorem dX3_init_107 : decode cX3_init 107 = .ok (.bipush 8, 2) := by decide +kernel
theorem dX3_init_109 : decode cX3_init 109 = .ok (.newarray .int, 2) := by decide +kernel
theorem dX3_init_111 : decode cX3_init 111 = .ok (.putfield 50, 3) := by decide +kernel
theorem dX3_init_114 : decode cX3_init 114 = .ok (.aload_n 0, 1) := by decide +kernel
theorem dX3_init_115 : decode cX3_init 115 = .ok (.bipush 8, 2) := by decide +kernel
theorem dX3_init_117 : decode cX3_init 117 = .ok (.newarray .int, 2) := by decide +kernel
theorem dX3_init_119 : decode cX3_init 119 = .ok (.putfield 53, 3) := by decide +kernel
theorem dX3_init_122 : decode cX3_init 122 = .ok (.aload_n 0, 1) := by decide +kernel
theorem dX3_init_123 : decode cX3_init 123 = .ok (.bipush 8, 2) := by decide +kernel
theorem dX3_init_125 : decode cX3_init 125 = .ok (.newarray .int, 2) := by decide +kernel
theorem dX3_init_127 : decode cX3_init 127 = .ok (.putfield 56, 3) := by decide +kernel
theorem dX3_init_130 : decode cX3_init 130 = .ok (.return_, 1) := by decide +kernel
theorem dX3_in_0 : decode cX3_in 0 = .ok (.lload_n 0, 1) := by decide +kernel
theorem dX3_in_1 : decode cX3_in 1 = .ok (.lload_n 2, 1) := by decide +kernel
theorem dX3_in_2 : decode cX3_in 2 = .ok (.lcmp, 1) := by decide +kernel
theorem dX3_in_3 : decode cX3_in 3 = .ok (.ifCond .lt 14, 3) := by decide +kernel
theorem dX3_in_6 : decode cX3_in 6 = .ok (.lload_n 0, 1) := by decide +kernel
theorem dX3_in_7 : decode cX3_in 7 = .ok (.lload 4, 2) := by decide +kernel
theorem dX3_in_9 : decode cX3_in 9 = .ok (.lcmp, 1) := by decide +kernel
theorem dX3_in_10 : decode cX3_in 10 = .ok (.ifCond .gt 7, 3) := by decide +kernel
theorem dX3_in_13 : decode cX3_in 13 = .ok (.iconst 1, 1) := by decide +kernel
theorem dX3_in_14 : decode cX3_in 14 = .ok (.goto 4, 3) := by decide +kernel
theorem dX3_in_17 : decode cX3_in 17 = .ok (.iconst 0, 1) := by decide +kernel
theorem dX3_in_18 : decode cX3_in 18 = .ok (.ireturn, 1) := by decide +kernel
theorem dX3_has_0 : decode cX3_has 0 = .ok (.iload_n 0, 1) := by decide +kernel
theorem dX3_has_1 : decode cX3_has 1 = .ok (.iload_n 1, 1) := by decide +kernel
theorem dX3_has_2 : decode cX3_has 2 = .ok (.ishr, 1) := by decide +kernel
theorem dX3_has_3 : decode cX3_has 3 = .ok (.iconst 1, 1) := by decide +kernel
theorem dX3_has_4 : decode cX3_has 4 = .ok (.iand, 1) := by decide +kernel
theorem dX3_has_5 : decode cX3_has 5 = .ok (.iconst 1, 1) := by decide +kernel
theorem dX3_has_6 : decode cX3_has 6 = .ok (.if_icmp .ne 7, 3) := by decide +kernel
theorem dX3_has_9 : decode cX3_has 9 = .ok (.iconst 1, 1) := by decide +kernel
theorem dX3_has_10 : decode cX3_has 10 = .ok (.goto 4, 3) := by decide +kernel
theorem dX3_has_13 : decode cX3_has 13 = .ok (.iconst 0, 1) := by decide +kernel
theorem dX3_has_14 : decode cX3_has 14 = .ok (.ireturn, 1) := by decide +kernel
theorem dX3_ones_0 : decode cX3_ones 0 = .ok (.iconst 0, 1) := by decide +kernel
theorem dX3_ones_1 : decode cX3_ones 1 = .ok (.istore_n 1, 1) := by decide +kernel
theorem dX3_ones_2 : decode cX3_ones 2 = .ok (.iconst 0, 1) := by decide +kernel
theorem dX3_ones_3 : decode cX3_ones 3 = .ok (.istore_n 2, 1) := by decide +kernel
theorem dX3_ones_4 : decode cX3_ones 4 = .ok (.iload_n 2, 1) := by decide +kernel
theorem dX3_ones_5 : decode cX3_ones 5 = .ok (.bipush 10, 2) := by decide +kernel
theorem dX3_ones_7 : decode cX3_ones 7 = .ok (.if_icmp .ge 17, 3) := by decide +kernel
theorem dX3_ones_10 : decode cX3_ones 10 = .ok (.iload_n 1, 1) := by decide +kernel
theorem dX3_ones_11 : decode cX3_ones 11 = .ok (.iload_n 0, 1) := by decide +kernel
theorem dX3_ones_12 : decode cX3_ones 12 = .ok (.iload_n 2, 1) := by decide +kernel
theorem dX3_ones_13 : decode cX3_ones 13 = .ok (.ishr, 1) := by decide +kernel
theorem dX3_ones_14 : decode cX3_ones 14 = .ok (.iconst 1, 1) := by decide +kernel
theorem dX3_ones_15 : decode cX3_ones 15 = .ok (.iand, 1) := by decide +kernel
theorem dX3_ones_16 : decode cX3_ones 16 = .ok (.iadd, 1) := by decide +kernel
theorem dX3_ones_17 : decode cX3_ones 17 = .ok (.istore_n 1, 1) := by decide +kernel
theorem dX3_ones_18 : decode cX3_ones 18 = .ok (.iinc 2 1, 3) := by decide +kernel
theorem dX3_ones_21 : decode cX3_ones 21 = .ok (.goto (-17), 3) := by decide +kernel
theorem dX3_ones_24 : decode cX3_ones 24 = .ok (.iload_n 1, 1) := by decide +kernel
theorem dX3_ones_25 : decode cX3_ones 25 = .ok (.ireturn, 1) := by decide +kernel
set_option maxRecDepth 20000 in
theorem ggX3_isRule_X3_in : GoodIn wsX3_isRule wsX3_in := goodIn_r _ [5] (by decide +kernel) (by decide +kernel)
set_option maxRecDepth 20000 in
theorem gX3_isRule_X3_in : GoodIn wsX3_isRule (va_wsS RX3 63 yX3_in wsX3_in) := goodIn_app (goodIn_of _ (by decide +kernel)) ggX3_isRule_X3_in
theorem dX3_isRule_0 : decode cX3_isRule 0 = .ok (.iload_n 1, 1) := by decide +kernel
theorem dX3_isRule_1 : decode cX3_isRule 1 = .ok (.i2l, 1) := by decide +kernel
theorem dX3_isRule_2 : decode cX3_isRule 2 = .ok (.lconst 0, 1) := by decide +kernel
theorem dX3_isRule_3 : decode cX3_isRule 3 = .ok (.aload_n 0, 1) := by decide +kernel
theorem dX3_isRule_4 : decode cX3_isRule 4 = .ok (.getfield 59, 3) := by decide +kernel
theorem dX3_isRule_7 : decode cX3_isRule 7 = .ok (.iconst 1, 1) := by decide +kernel
theorem dX3_isRule_8 : decode cX3_isRule 8 = .ok (.isub, 1) := by decide +kernel
theorem dX3_isRule_9 : decode cX3_isRule 9 = .ok (.i2l, 1) := by decide +kernel
theorem dX3_isRule_10 : decode cX3_isRule 10 = .ok (.invokestatic 63, 3) := by decide +kernel
theorem dX3_isRule_13 : decode cX3_isRule 13 = .ok (.ireturn, 1) := by decide +kernel
set_option maxRecDepth 20000 in
theorem ggX3_type_X3_in : GoodIn wsX3_type wsX3_in := goodIn_r _ [8] (by decide +kernel) (by decide +kernel)
set_option maxRecDepth 20000 in
theorem gX3_type_X3_in : GoodIn wsX3_type (va_wsS RX3 63 yX3_in wsX3_in) := goodIn_app (goodIn_of _ (by decide +kernel)) ggX3_type_X3_in
theorem dX3_type_0 : decode cX3_type 0 = .ok (.iload_n 3, 1) := by decide +kernel
theorem dX3_type_1 : decode cX3_type 1 = .ok (.i2l, 1) := by decide +kernel
theorem dX3_type_2 : decode cX3_type 2 = .ok (.lconst 1, 1) := by decide +kernel
theorem dX3_type_3 : decode cX3_type 3 = .ok (.ldc2_w 67, 3) := by decide +kernel
theorem dX3_type_6 : decode cX3_type 6 = .ok (.invokestatic 63, 3) := by decide +kernel
theorem dX3_type_9 : decode cX3_type 9 = .ok (.ifCond .ne 5, 3) := by decide +kernel
theorem dX3_type_12 : decode cX3_type 12 = .ok (.iconst (-1), 1) := by decide +kernel
theorem dX3_type_13 : decode cX3_type 13 = .ok (.ireturn, 1) := by decide +kernel
theorem dX3_type_14 : decode cX3_type 14 = .ok (.aload_n 0, 1) := by decide +kernel
theorem dX3_type_15 : decode cX3_type 15 = .ok (.getfield 69, 3) := by decide +kernel
theorem dX3_type_18 : decode cX3_type 18 = .ok (.iload_n 3, 1) := by decide +kernel
theorem dX3_type_19 : decode cX3_type 19 = .ok (.iadd, 1) := by decide +kernel
theorem dX3_type_20 : decode cX3_type 20 = .ok (.sipush 300, 3) := by decide +kernel
theorem dX3_type_23 : decode cX3_type 23 = .ok (.if_icmp .le 6, 3) := by decide +kernel
theorem dX3_type_26 : decode cX3_type 26 = .ok (.bipush (-3), 2) := by decide +kernel
theorem dX3_type_28 : decode cX3_type 28 = .ok (.ireturn, 1) := by decide +kernel
theorem dX3_type_29 : decode cX3_type 29 = .ok (.iload_n 3, 1) := by decide +kernel
theorem dX3_type_30 : decode cX3_type 30 = .ok (.iconst 1, 1) := by decide +kernel
theorem dX3_type_31 : decode cX3_type 31 = .ok (.isub, 1) := by decide +kernel
theorem dX3_type_32 : decode cX3_type 32 = .ok (.istore 4, 2) := by decide +kernel
theorem dX3_type_34 : decode cX3_type 34 = .ok (.iload 4, 2) := by decide +kernel
theorem dX3_type_36 : decode cX3_type 36 = .ok (.ifCond .lt 40, 3) := by decide +kernel
theorem dX3_type_39 : decode cX3_type 39 = .ok (.aload_n 0, 1) := by decide +kernel
theorem dX3_type_40 : decode cX3_type 40 = .ok (.getfield 19, 3) := by decide +kernel
theorem dX3_type_43 : decode cX3_type 43 = .ok (.aload_n 0, 1) := by decide +kernel
theorem dX3_type_44 : decode cX3_type 44 = .ok (.getfield 69, 3) := by decide +kernel
theorem dX3_type_47 : decode cX3_type 47 = .ok (.lload_n 1, 1) := by decide +kernel
theorem dX3_type_48 : decode cX3_type 48 = .ok (.bipush 8, 2) := by decide +kernel
theorem dX3_type_50 : decode cX3_type 50 = .ok (.iload 4, 2) := by decide +kernel
theorem dX3_type_52 : decode cX3_type 52 = .ok (.imul, 1) := by decide +kernel
theorem dX3_type_53 : decode cX3_type 53 = .ok (.lshr, 1) := by decide +kernel
theorem dX3_type_54 : decode cX3_type 54 = .ok (.ldc2_w 72, 3) := by decide +kernel
theorem dX3_type_57 : decode cX3_type 57 = .ok (.land, 1) := by decide +kernel
theorem dX3_type_58 : decode cX3_type 58 = .ok (.l2i, 1) := by decide +kernel
theorem dX3_type_59 : decode cX3_type 59 = .ok (.iastore, 1) := by decide +kernel
theorem dX3_type_60 : decode cX3_type 60 = .ok (.aload_n 0, 1) := by decide +kernel
theorem dX3_type_61 : decode cX3_type 61 = .ok (.dup, 1) := by decide +kernel
theorem dX3_type_62 : decode cX3_type 62 = .ok (.getfield 69, 3) := by decide +kernel
theorem dX3_type_65 : decode cX3_type 65 = .ok (.iconst 1, 1) := by decide +kernel
theorem dX3_type_66 : decode cX3_type 66 = .ok (.iadd, 1) := by decide +kernel
theorem dX3_type_67 : decode cX3_type 67 = .ok (.putfield 69, 3) := by decide +kernel
theorem dX3_type_70 : decode cX3_type 70 = .ok (.iinc 4 (-1), 3) := by decide +kernel
theorem dX3_type_73 : decode cX3_type 73 = .ok (.goto (-39), 3) := by decide +kernel
theorem dX3_type_76 : decode cX3_type 76 = .ok (.aload_n 0, 1) := by decide +kernel
theorem dX3_type_77 : decode cX3_type 77 = .ok (.getfield 69, 3) := by decide +kernel
theorem dX3_type_80 : decode cX3_type 80 = .ok (.ireturn, 1) := by decide +kernel
theorem dX3_clear_0 : decode cX3_clear 0 = .ok (.aload_n 0, 1) := by decide +kernel
theorem dX3_clear_1 : decode cX3_clear 1 = .ok (.getfield 69, 3) := by decide +kernel
theorem dX3_clear_4 : decode cX3_clear 4 = .ok (.istore_n 1, 1) := by decide +kernel
theorem dX3_clear_5 : decode cX3_clear 5 = .ok (.aload_n 0, 1) := by decide +kernel
theorem dX3_clear_6 : decode cX3_clear 6 = .ok (.iconst 0, 1) := by decide +kernel
theorem dX3_clear_7 : decode cX3_clear 7 = .ok (.putfield 69, 3) := by decide +kernel
theorem dX3_clear_10 : decode cX3_clear 10 = .ok (.iload_n 1, 1) := by decide +kernel
theorem dX3_clear_11 : decode cX3_clear 11 = .ok (.ireturn, 1) := by decide +kernel
theorem dX3_isLetter_0 : decode cX3_isLetter 0 = .ok (.iload_n 0, 1) := by decide +kernel
theorem dX3_isLetter_1 : decode cX3_isLetter 1 = .ok (.bipush 97, 2) := by decide +kernel
theorem dX3_isLetter_3 : decode cX3_isLetter 3 = .ok (.if_icmp .lt 13, 3) := by decide +kernel
theorem dX3_isLetter_6 : decode cX3_isLetter 6 = .ok (.iload_n 0, 1) := by decide +kernel
theorem dX3_isLetter_7 : decode cX3_isLetter 7 = .ok (.bipush 122, 2) := by decide +kernel
theorem dX3_isLetter_9 : decode cX3_isLetter 9 = .ok (.if_icmp .gt 7, 3) := by decide +kernel
theorem dX3_isLetter_12 : decode cX3_isLetter 12 = .ok (.iconst 1, 1) := by decide +kernel
theorem dX3_isLetter_13 : decode cX3_isLetter 13 = .ok (.goto 4, 3) := by decide +kernel
theorem dX3_isLetter_16 : decode cX3_isLetter 16 = .ok (.iconst 0, 1) := by decide +kernel
theorem dX3_isLetter_17 : decode cX3_isLetter 17 = .ok (.ireturn, 1) := by decide +kernel
set_option maxRecDepth 20000 in
theorem ggX3_next_X3_isLetter : GoodIn wsX3_next wsX3_isLetter := goodIn_r _ [15] (by decide +kernel) (by decide +kernel)
set_option maxRecDepth 20000 in
theorem gX3_next_X3_isLetter : GoodIn wsX3_next (va_wsS RX3 80 yX3_isLetter wsX3_isLetter) := goodIn_app (goodIn_of _ (by decide +kernel)) ggX3_next_X3_isLetter
theorem dX3_next_0 : decode cX3_next 0 = .ok (.aload_n 0, 1) := by decide +kernel
theorem dX3_next_1 : decode cX3_next 1 = .ok (.getfield 74, 3) := by decide +kernel
theorem dX3_next_4 : decode cX3_next 4 = .ok (.aload_n 0, 1) := by decide +kernel
theorem dX3_next_5 : decode cX3_next 5 = .ok (.getfield 69, 3) := by decide +kernel
theorem dX3_next_8 : decode cX3_next 8 = .ok (.if_icmp .ge 30, 3) := by decide +kernel
theorem dX3_next_11 : decode cX3_next 11 = .ok (.aload_n 0, 1) := by decide +kernel
theorem dX3_next_12 : decode cX3_next 12 = .ok (.getfield 19, 3) := by decide +kernel
theorem dX3_next_15 : decode cX3_next 15 = .ok (.aload_n 0, 1) := by decide +kernel
theorem dX3_next_16 : decode cX3_next 16 = .ok (.getfield 74, 3) := by decide +kernel
theorem dX3_next_19 : decode cX3_next 19 = .ok (.iaload, 1) := by decide +kernel
theorem dX3_next_20 : decode cX3_next 20 = .ok (.bipush 32, 2) := by decide +kernel
theorem dX3_next_22 : decode cX3_next 22 = .ok (.if_icmp .ne 16, 3) := by decide +kernel
theorem dX3_next_25 : decode cX3_next 25 = .ok (.aload_n 0, 1) := by decide +kernel
theorem dX3_next_26 : decode cX3_next 26 = .ok (.dup, 1) := by decide +kernel
theorem dX3_next_27 : decode cX3_next 27 = .ok (.getfield 74, 3) := by decide +kernel
theorem dX3_next_30 : decode cX3_next 30 = .ok (.iconst 1, 1) := by decide +kernel
theorem dX3_next_31 : decode cX3_next 31 = .ok (.iadd, 1) := by decide +kernel
theorem dX3_next_32 : decode cX3_next 32 = .ok (.putfield 74, 3) := by decide +kernel
theorem dX3_next_35 : decode cX3_next 35 = .ok (.goto (-35), 3) := by decide +kernel
theorem dX3_next_38 : decode cX3_next 38 = .ok (.aload_n 0, 1) := by decide +kernel
theorem dX3_next_39 : decode cX3_next 39 = .ok (.aload_n 0, 1) := by decide +kernel
theorem dX3_next_40 : decode cX3_next 40 = .ok (.getfield 74, 3) := by decide +kernel
theorem dX3_next_43 : decode cX3_next 43 = .ok (.putfield 77, 3) := by decide +kernel
theorem dX3_next_46 : decode cX3_next 46 = .ok (.aload_n 0, 1) := by decide +kernel
theorem dX3_next_47 : decode cX3_next 47 = .ok (.getfield 74, 3) := by decide +kernel
theorem dX3_next_50 : decode cX3_next 50 = .ok (.aload_n 0, 1) := by decide +kernel
theorem dX3_next_51 : decode cX3_next 51 = .ok (.getfield 69, 3) := by decide +kernel
theorem dX3_next_54 : decode cX3_next 54 = .ok (.if_icmp .ne 6, 3) := by decide +kernel
theorem dX3_next_57 : decode cX3_next 57 = .ok (.bipush 14, 2) := by decide +kernel
theorem dX3_next_59 : decode cX3_next 59 = .ok (.ireturn, 1) := by decide +kernel
theorem dX3_next_60 : decode cX3_next 60 = .ok (.aload_n 0, 1) := by decide +kernel
theorem dX3_next_61 : decode cX3_next 61 = .ok (.getfield 19, 3) := by decide +kernel
theorem dX3_next_64 : decode cX3_next 64 = .ok (.aload_n 0, 1) := by decide +kernel
theorem dX3_next_65 : decode cX3_next 65 = .ok (.getfield 74, 3) := by decide +kernel
theorem dX3_next_68 : decode cX3_next 68 = .ok (.iaload, 1) := by decide +kernel
theorem dX3_next_69 : decode cX3_next 69 = .ok (.invokestatic 80, 3) := by decide +kernel
theorem dX3_next_72 : decode cX3_next 72 = .ok (.ifCond .ne 37, 3) := by decide +kernel
theorem dX3_next_75 : decode cX3_next 75 = .ok (.aload_n 0, 1) := by decide +kernel
theorem dX3_next_76 : decode cX3_next 76 = .ok (.dup, 1) := by decide +kernel
theorem dX3_next_77 : decode cX3_next 77 = .ok (.getfield 74, 3) := by decide +kernel
theorem dX3_next_80 : decode cX3_next 80 = .ok (.iconst 1, 1) := by decide +kernel
theorem dX3_next_81 : decode cX3_next 81 = .ok (.iadd, 1) := by decide +kernel
theorem dX3_next_82 : decode cX3_next 82 = .ok (.putfield 74, 3) := by decide +kernel
theorem dX3_next_85 : decode cX3_next 85 = .ok (.aload_n 0, 1) := by decide +kernel
theorem dX3_next_86 : decode cX3_next 86 = .ok (.getfield 19, 3) := by decide +kernel
theorem dX3_next_89 : decode cX3_next 89 = .ok (.aload_n 0, 1) := by decide +kernel
theorem dX3_next_90 : decode cX3_next 90 = .ok (.getfield 74, 3) := by decide +kernel
theorem dX3_next_93 : decode cX3_next 93 = .ok (.iconst 1, 1) := by decide +kernel
theorem dX3_next_94 : decode cX3_next 94 = .ok (.isub, 1) := by decide +kernel
theorem dX3_next_95 : decode cX3_next 95 = .ok (.iaload, 1) := by decide +kernel
theorem dX3_next_96 : decode cX3_next 96 = .ok (.bipush 59, 2) := by decide +kernel
theorem dX3_next_98 : decode cX3_next 98 = .ok (.if_icmp .ne 8, 3) := by decide +kernel
theorem dX3_next_101 : decode cX3_next 101 = .ok (.bipush 12, 2) := by decide +kernel
theorem dX3_next_103 : decode cX3_next 103 = .ok (.goto 5, 3) := by decide +kernel
theorem dX3_next_106 : decode cX3_next 106 = .ok (.bipush 13, 2) := by decide +kernel
theorem dX3_next_108 : decode cX3_next 108 = .ok (.ireturn, 1) := by decide +kernel
theorem dX3_next_109 : decode cX3_next 109 = .ok (.lconst 0, 1) := by decide +kernel
theorem dX3_next_110 : decode cX3_next 110 = .ok (.lstore_n 1, 1) := by decide +kernel
theorem dX3_next_111 : decode cX3_next 111 = .ok (.aload_n 0, 1) := by decide +kernel
theorem dX3_next_112 : decode cX3_next 112 = .ok (.getfield 74, 3) := by decide +kernel
theorem dX3_next_115 : decode cX3_next 115 = .ok (.aload_n 0, 1) := by decide +kernel
theorem dX3_next_116 : decode cX3_next 116 = .ok (.getfield 69, 3) := by decide +kernel
theorem dX3_next_119 : decode cX3_next 119 = .ok (.if_icmp .ge 70, 3) := by decide +kernel
theorem dX3_next_122 : decode cX3_next 122 = .ok (.aload_n 0, 1) := by decide +kernel
theorem dX3_next_123 : decode cX3_next 123 = .ok (.getfield 19, 3) := by decide +kernel
theorem dX3_next_126 : decode cX3_next 126 = .ok (.aload_n 0, 1) := by decide +kernel
theorem dX3_next_127 : decode cX3_next 127 = .ok (.getfield 74, 3) := by decide +kernel
theorem dX3_next_130 : decode cX3_next 130 = .ok (.iaload, 1) := by decide +kernel
theorem dX3_next_131 : decode cX3_next 131 = .ok (.invokestatic 80, 3) := by decide +kernel
theorem dX3_next_134 : decode cX3_next 134 = .ok (.ifCond .eq 55, 3) := by decide +kernel
theorem dX3_next_137 : decode cX3_next 137 = .ok (.aload_n 0, 1) := by decide +kernel
theorem dX3_next_138 : decode cX3_next 138 = .ok (.getfield 74, 3) := by decide +kernel
theorem dX3_next_141 : decode cX3_next 141 = .ok (.aload_n 0, 1) := by decide +kernel
theorem dX3_next_142 : decode cX3_next 142 = .ok (.getfield 77, 3) := by decide +kernel
theorem dX3_next_145 : decode cX3_next 145 = .ok (.isub, 1) := by decide +kernel
theorem dX3_next_146 : decode cX3_next 146 = .ok (.bipush 7, 2) := by decide +kernel
theorem dX3_next_148 : decode cX3_next 148 = .ok (.if_icmp .ge 26, 3) := by decide +kernel
theorem dX3_next_151 : decode cX3_next 151 = .ok (.ldc2_w 84, 3) := by decide +kernel
theorem dX3_next_154 : decode cX3_next 154 = .ok (.lload_n 1, 1) := by decide +kernel
theorem dX3_next_155 : decode cX3_next 155 = .ok (.lmul, 1) := by decide +kernel
theorem dX3_next_156 : decode cX3_next 156 = .ok (.aload_n 0, 1) := by decide +kernel
theorem dX3_next_157 : decode cX3_next 157 = .ok (.getfield 19, 3) := by decide +kernel
theorem dX3_next_160 : decode cX3_next 160 = .ok (.aload_n 0, 1) := by decide +kernel
theorem dX3_next_161 : decode cX3_next 161 = .ok (.getfield 74, 3) := by decide +kernel
theorem dX3_next_164 : decode cX3_next 164 = .ok (.iaload, 1) := by decide +kernel
theorem dX3_next_165 : decode cX3_next 165 = .ok (.i2l, 1) := by decide +kernel
theorem dX3_next_166 : decode cX3_next 166 = .ok (.ladd, 1) := by decide +kernel
theorem dX3_next_167 : decode cX3_next 167 = .ok (.ldc2_w 86, 3) := by decide +kernel
theorem dX3_next_170 : decode cX3_next 170 = .ok (.lsub, 1) := by decide +kernel
theorem dX3_next_171 : decode cX3_next 171 = .ok (.goto 4, 3) := by decide +kernel
theorem dX3_next_174 : decode cX3_next 174 = .ok (.lload_n 1, 1) := by decide +kernel
theorem dX3_next_175 : decode cX3_next 175 = .ok (.lstore_n 1, 1) := by decide +kernel
theorem dX3_next_176 : decode cX3_next 176 = .ok (.aload_n 0, 1) := by decide +kernel
theorem dX3_next_177 : decode cX3_next 177 = .ok (.dup, 1) := by decide +kernel
theorem dX3_next_178 : decode cX3_next 178 = .ok (.getfield 74, 3) := by decide +kernel
theorem dX3_next_181 : decode cX3_next 181 = .ok (.iconst 1, 1) := by decide +kernel
theorem dX3_next_182 : decode cX3_next 182 = .ok (.iadd, 1) := by decide +kernel
theorem dX3_next_183 : decode cX3_next 183 = .ok (.putfield 74, 3) := by decide +kernel
theorem dX3_next_186 : decode cX3_next 186 = .ok (.goto (-75), 3) := by decide +kernel
theorem dX3_next_189 : decode cX3_next 189 = .ok (.lload_n 1, 1) := by decide +kernel
theorem dX3_next_190 : decode cX3_next 190 = .ok (.ldc2_w 67, 3) := by decide +kernel
theorem dX3_next_193 : decode cX3_next 193 = .ok (.lcmp, 1) := by decide +kernel
theorem dX3_next_194 : decode cX3_next 194 = .ok (.ifCond .gt 10, 3) := by decide +kernel
theorem dX3_next_197 : decode cX3_next 197 = .ok (.lload_n 1, 1) := by decide +kernel
theorem dX3_next_198 : decode cX3_next 198 = .ok (.l2i, 1) := by decide +kernel
theorem dX3_next_199 : decode cX3_next 199 = .ok (.iconst 1, 1) := by decide +kernel
theorem dX3_next_200 : decode cX3_next 200 = .ok (.isub, 1) := by decide +kernel
theorem dX3_next_201 : decode cX3_next 201 = .ok (.goto 57, 3) := by decide +kernel
theorem dX3_next_204 : decode cX3_next 204 = .ok (.lload_n 1, 1) := by decide +kernel
theorem dX3_next_205 : decode cX3_next 205 = .ok (.ldc2_w 88, 3) := by decide +kernel
theorem dX3_next_208 : decode cX3_next 208 = .ok (.lcmp, 1) := by decide +kernel
theorem dX3_next_209 : decode cX3_next 209 = .ok (.ifCond .ne 8, 3) := by decide +kernel
theorem dX3_next_212 : decode cX3_next 212 = .ok (.bipush 8, 2) := by decide +kernel
theorem dX3_next_214 : decode cX3_next 214 = .ok (.goto 44, 3) := by decide +kernel
theorem dX3_next_217 : decode cX3_next 217 = .ok (.lload_n 1, 1) := by decide +kernel
theorem dX3_next_218 : decode cX3_next 218 = .ok (.ldc2_w 90, 3) := by decide +kernel
theorem dX3_next_221 : decode cX3_next 221 = .ok (.lcmp, 1) := by decide +kernel
theorem dX3_next_222 : decode cX3_next 222 = .ok (.ifCond .ne 8, 3) := by decide +kernel
theorem dX3_next_225 : decode cX3_next 225 = .ok (.bipush 9, 2) := by decide +kernel
theorem dX3_next_227 : decode cX3_next 227 = .ok (.goto 31, 3) := by decide +kernel
theorem dX3_next_230 : decode cX3_next 230 = .ok (.lload_n 1, 1) := by decide +kernel
theorem dX3_next_231 : decode cX3_next 231 = .ok (.ldc2_w 92, 3) := by decide +kernel
theorem dX3_next_234 : decode cX3_next 234 = .ok (.lcmp, 1) := by decide +kernel
theorem dX3_next_235 : decode cX3_next 235 = .ok (.ifCond .ne 8, 3) := by decide +kernel
theorem dX3_next_238 : decode cX3_next 238 = .ok (.bipush 10, 2) := by decide +kernel
theorem dX3_next_240 : decode cX3_next 240 = .ok (.goto 18, 3) := by decide +kernel
theorem dX3_next_243 : decode cX3_next 243 = .ok (.lload_n 1, 1) := by decide +kernel
theorem dX3_next_244 : decode cX3_next 244 = .ok (.ldc2_w 94, 3) := by decide +kernel
theorem dX3_next_247 : decode cX3_next 247 = .ok (.lcmp, 1) := by decide +kernel
theorem dX3_next_248 : decode cX3_next 248 = .ok (.ifCond .ne 8, 3) := by decide +kernel
theorem dX3_next_251 : decode cX3_next 251 = .ok (.bipush 11, 2) := by decide +kernel
theorem dX3_next_253 : decode cX3_next 253 = .ok (.goto 5, 3) := by decide +kernel
theorem dX3_next_256 : decode cX3_next 256 = .ok (.bipush 13, 2) := by decide +kernel
theorem dX3_next_258 : decode cX3_next 258 = .ok (.ireturn, 1) := by decide +kernel
theorem dX3_goesTo_0 : decode cX3_goesTo 0 = .ok (.iload_n 2, 1) := by decide +kernel
theorem dX3_goesTo_1 : decode cX3_goesTo 1 = .ok (.bipush 8, 2) := by decide +kernel
theorem dX3_goesTo_3 : decode cX3_goesTo 3 = .ok (.if_icmp .ge 7, 3) := by decide +kernel
theorem dX3_goesTo_6 : decode cX3_goesTo 6 = .ok (.iconst 1, 1) := by decide +kernel
theorem dX3_goesTo_7 : decode cX3_goesTo 7 = .ok (.goto 4, 3) := by decide +kernel
theorem dX3_goesTo_10 : decode cX3_goesTo 10 = .ok (.iconst 0, 1) := by decide +kernel
theorem dX3_goesTo_11 : decode cX3_goesTo 11 = .ok (.istore_n 3, 1) := by decide +kernel
theorem dX3_goesTo_12 : decode cX3_goesTo 12 = .ok (.iload_n 1, 1) := by decide +kernel
theorem dX3_goesTo_13 : decode cX3_goesTo 13 = .ok (.tableswitch 213 0 6 #[43, 92, 124, 146, 156, 186, 186], 43) := by decide +kernel
theorem dX3_goesTo_56 : decode cX3_goesTo 56 = .ok (.iload_n 3, 1) := by decide +kernel
theorem dX3_goesTo_57 : decode cX3_goesTo 57 = .ok (.ifCond .eq 16, 3) := by decide +kernel
theorem dX3_goesTo_60 : decode cX3_goesTo 60 = .ok (.aload_n 0, 1) := by decide +kernel
theorem dX3_goesTo_61 : decode cX3_goesTo 61 = .ok (.getfield 96, 3) := by decide +kernel
theorem dX3_goesTo_64 : decode cX3_goesTo 64 = .ok (.bipush 10, 2) := by decide +kernel
theorem dX3_goesTo_66 : decode cX3_goesTo 66 = .ok (.if_icmp .ge 7, 3) := by decide +kernel
theorem dX3_goesTo_69 : decode cX3_goesTo 69 = .ok (.iconst 1, 1) := by decide +kernel
theorem dX3_goesTo_70 : decode cX3_goesTo 70 = .ok (.goto 34, 3) := by decide +kernel
theorem dX3_goesTo_73 : decode cX3_goesTo 73 = .ok (.iload_n 2, 1) := by decide +kernel
theorem dX3_goesTo_74 : decode cX3_goesTo 74 = .ok (.bipush 10, 2) := by decide +kernel
theorem dX3_goesTo_76 : decode cX3_goesTo 76 = .ok (.if_icmp .ne 16, 3) := by decide +kernel
theorem dX3_goesTo_79 : decode cX3_goesTo 79 = .ok (.aload_n 0, 1) := by decide +kernel
theorem dX3_goesTo_80 : decode cX3_goesTo 80 = .ok (.getfield 96, 3) := by decide +kernel
theorem dX3_goesTo_83 : decode cX3_goesTo 83 = .ok (.bipush 10, 2) := by decide +kernel
theorem dX3_goesTo_85 : decode cX3_goesTo 85 = .ok (.if_icmp .ge 7, 3) := by decide +kernel
theorem dX3_goesTo_88 : decode cX3_goesTo 88 = .ok (.iconst 2, 1) := by decide +kernel
theorem dX3_goesTo_89 : decode cX3_goesTo 89 = .ok (.goto 15, 3) := by decide +kernel
theorem dX3_goesTo_92 : decode cX3_goesTo 92 = .ok (.iload_n 2, 1) := by decide +kernel
theorem dX3_goesTo_93 : decode cX3_goesTo 93 = .ok (.bipush 11, 2) := by decide +kernel
theorem dX3_goesTo_95 : decode cX3_goesTo 95 = .ok (.if_icmp .ne 8, 3) := by decide +kernel
theorem dX3_goesTo_98 : decode cX3_goesTo 98 = .ok (.bipush 7, 2) := by decide +kernel
theorem dX3_goesTo_100 : decode cX3_goesTo 100 = .ok (.goto 4, 3) := by decide +kernel
theorem dX3_goesTo_103 : decode cX3_goesTo 103 = .ok (.iconst (-1), 1) := by decide +kernel
theorem dX3_goesTo_104 : decode cX3_goesTo 104 = .ok (.ireturn, 1) := by decide +kernel
theorem dX3_goesTo_105 : decode cX3_goesTo 105 = .ok (.iload_n 2, 1) := by decide +kernel
theorem dX3_goesTo_106 : decode cX3_goesTo 106 = .ok (.bipush 8, 2) := by decide +kernel
theorem dX3_goesTo_108 : decode cX3_goesTo 108 = .ok (.if_icmp .ne 7, 3) := by decide +kernel
theorem dX3_goesTo_111 : decode cX3_goesTo 111 = .ok (.iconst 3, 1) := by decide +kernel
theorem dX3_goesTo_112 : decode cX3_goesTo 112 = .ok (.goto 24, 3) := by decide +kernel
theorem dX3_goesTo_115 : decode cX3_goesTo 115 = .ok (.iload_n 2, 1) := by decide +kernel
theorem dX3_goesTo_116 : decode cX3_goesTo 116 = .ok (.bipush 9, 2) := by decide +kernel
theorem dX3_goesTo_118 : decode cX3_goesTo 118 = .ok (.if_icmp .ne 7, 3) := by decide +kernel
theorem dX3_goesTo_121 : decode cX3_goesTo 121 = .ok (.iconst 5, 1) := by decide +kernel
theorem dX3_goesTo_122 : decode cX3_goesTo 122 = .ok (.goto 14, 3) := by decide +kernel
theorem dX3_goesTo_125 : decode cX3_goesTo 125 = .ok (.iload_n 2, 1) := by decide +kernel
theorem dX3_goesTo_126 : decode cX3_goesTo 126 = .ok (.bipush 12, 2) := by decide +kernel
theorem dX3_goesTo_128 : decode cX3_goesTo 128 = .ok (.if_icmp .ne 7, 3) := by decide +kernel
theorem dX3_goesTo_131 : decode cX3_goesTo 131 = .ok (.iconst 0, 1) := by decide +kernel
theorem dX3_goesTo_132 : decode cX3_goesTo 132 = .ok (.goto 4, 3) := by decide +kernel
theorem dX3_goesTo_135 : decode cX3_goesTo 135 = .ok (.iconst (-1), 1) := by decide +kernel
theorem dX3_goesTo_136 : decode cX3_goesTo 136 = .ok (.ireturn, 1) := by decide +kernel
theorem dX3_goesTo_137 : decode cX3_goesTo 137 = .ok (.iload_n 2, 1) := by decide +kernel
theorem dX3_goesTo_138 : decode cX3_goesTo 138 = .ok (.bipush 8, 2) := by decide +kernel
theorem dX3_goesTo_140 : decode cX3_goesTo 140 = .ok (.if_icmp .ne 7, 3) := by decide +kernel
theorem dX3_goesTo_143 : decode cX3_goesTo 143 = .ok (.iconst 3, 1) := by decide +kernel
theorem dX3_goesTo_144 : decode cX3_goesTo 144 = .ok (.goto 14, 3) := by decide +kernel
theorem dX3_goesTo_147 : decode cX3_goesTo 147 = .ok (.iload_n 2, 1) := by decide +kernel
theorem dX3_goesTo_148 : decode cX3_goesTo 148 = .ok (.bipush 9, 2) := by decide +kernel
theorem dX3_goesTo_150 : decode cX3_goesTo 150 = .ok (.if_icmp .ne 7, 3) := by decide +kernel
theorem dX3_goesTo_153 : decode cX3_goesTo 153 = .ok (.iconst 5, 1) := by decide +kernel
theorem dX3_goesTo_154 : decode cX3_goesTo 154 = .ok (.goto 4, 3) := by decide +kernel
theorem dX3_goesTo_157 : decode cX3_goesTo 157 = .ok (.iconst (-1), 1) := by decide +kernel
theorem dX3_goesTo_158 : decode cX3_goesTo 158 = .ok (.ireturn, 1) := by decide +kernel
theorem dX3_goesTo_159 : decode cX3_goesTo 159 = .ok (.iload_n 3, 1) := by decide +kernel
theorem dX3_goesTo_160 : decode cX3_goesTo 160 = .ok (.ifCond .eq 7, 3) := by decide +kernel
theorem dX3_goesTo_163 : decode cX3_goesTo 163 = .ok (.iconst 4, 1) := by decide +kernel
theorem dX3_goesTo_164 : decode cX3_goesTo 164 = .ok (.goto 4, 3) := by decide +kernel
theorem dX3_goesTo_167 : decode cX3_goesTo 167 = .ok (.iconst (-1), 1) := by decide +kernel
theorem dX3_goesTo_168 : decode cX3_goesTo 168 = .ok (.ireturn, 1) := by decide +kernel
theorem dX3_goesTo_169 : decode cX3_goesTo 169 = .ok (.iload_n 3, 1) := by decide +kernel
theorem dX3_goesTo_170 : decode cX3_goesTo 170 = .ok (.ifCond .eq 7, 3) := by decide +kernel
theorem dX3_goesTo_173 : decode cX3_goesTo 173 = .ok (.iconst 4, 1) := by decide +kernel
theorem dX3_goesTo_174 : decode cX3_goesTo 174 = .ok (.goto 24, 3) := by decide +kernel
theorem dX3_goesTo_177 : decode cX3_goesTo 177 = .ok (.iload_n 2, 1) := by decide +kernel
theorem dX3_goesTo_178 : decode cX3_goesTo 178 = .ok (.bipush 9, 2) := by decide +kernel
theorem dX3_goesTo_180 : decode cX3_goesTo 180 = .ok (.if_icmp .ne 7, 3) := by decide +kernel
theorem dX3_goesTo_183 : decode cX3_goesTo 183 = .ok (.iconst 5, 1) := by decide +kernel
theorem dX3_goesTo_184 : decode cX3_goesTo 184 = .ok (.goto 14, 3) := by decide +kernel
theorem dX3_goesTo_187 : decode cX3_goesTo 187 = .ok (.iload_n 2, 1) := by decide +kernel
theorem dX3_goesTo_188 : decode cX3_goesTo 188 = .ok (.bipush 12, 2) := by decide +kernel
theorem dX3_goesTo_190 : decode cX3_goesTo 190 = .ok (.if_icmp .ne 7, 3) := by decide +kernel
theorem dX3_goesTo_193 : decode cX3_goesTo 193 = .ok (.iconst 0, 1) := by decide +kernel
theorem dX3_goesTo_194 : decode cX3_goesTo 194 = .ok (.goto 4, 3) := by decide +kernel
theorem dX3_goesTo_197 : decode cX3_goesTo 197 = .ok (.iconst (-1), 1) := by decide +kernel
theorem dX3_goesTo_198 : decode cX3_goesTo 198 = .ok (.ireturn, 1) := by decide +kernel
theorem dX3_goesTo_199 : decode cX3_goesTo 199 = .ok (.iload_n 3, 1) := by decide +kernel
theorem dX3_goesTo_200 : decode cX3_goesTo 200 = .ok (.ifCond .eq 8, 3) := by decide +kernel
theorem dX3_goesTo_203 : decode cX3_goesTo 203 = .ok (.bipush 6, 2) := by decide +kernel
theorem dX3_goesTo_205 : decode cX3_goesTo 205 = .ok (.goto 20, 3) := by decide +kernel
theorem dX3_goesTo_208 : decode cX3_goesTo 208 = .ok (.iload_n 1, 1) := by decide +kernel
theorem dX3_goesTo_209 : decode cX3_goesTo 209 = .ok (.bipush 6, 2) := by decide +kernel
theorem dX3_goesTo_211 : decode cX3_goesTo 211 = .ok (.if_icmp .ne 13, 3) := by decide +kernel
theorem dX3_goesTo_214 : decode cX3_goesTo 214 = .ok (.iload_n 2, 1) := by decide +kernel
theorem dX3_goesTo_215 : decode cX3_goesTo 215 = .ok (.bipush 12, 2) := by decide +kernel
theorem dX3_goesTo_217 : decode cX3_goesTo 217 = .ok (.if_icmp .ne 7, 3) := by decide +kernel
theorem dX3_goesTo_220 : decode cX3_goesTo 220 = .ok (.iconst 0, 1) := by decide +kernel
theorem dX3_goesTo_221 : decode cX3_goesTo 221 = .ok (.goto 4, 3) := by decide +kernel
theorem dX3_goesTo_224 : decode cX3_goesTo 224 = .ok (.iconst (-1), 1) := by decide +kernel
theorem dX3_goesTo_225 : decode cX3_goesTo 225 = .ok (.ireturn, 1) := by decide +kernel
theorem dX3_goesTo_226 : decode cX3_goesTo 226 = .ok (.iload_n 3, 1) := by decide +kernel
theorem dX3_goesTo_227 : decode cX3_goesTo 227 = .ok (.ifCond .eq 8, 3) := by decide +kernel
theorem dX3_goesTo_230 : decode cX3_goesTo 230 = .ok (.bipush 8, 2) := by decide +kernel
theorem dX3_goesTo_232 : decode cX3_goesTo 232 = .ok (.goto 20, 3) := by decide +kernel
theorem dX3_goesTo_235 : decode cX3_goesTo 235 = .ok (.iload_n 1, 1) := by decide +kernel
theorem dX3_goesTo_236 : decode cX3_goesTo 236 = .ok (.bipush 8, 2) := by decide +kernel
theorem dX3_goesTo_238 : decode cX3_goesTo 238 = .ok (.if_icmp .ne 13, 3) := by decide +kernel
theorem dX3_goesTo_241 : decode cX3_goesTo 241 = .ok (.iload_n 2, 1) := by decide +kernel
theorem dX3_goesTo_242 : decode cX3_goesTo 242 = .ok (.bipush 12, 2) := by decide +kernel
theorem dX3_goesTo_244 : decode cX3_goesTo 244 = .ok (.if_icmp .ne 7, 3) := by decide +kernel
theorem dX3_goesTo_247 : decode cX3_goesTo 247 = .ok (.iconst 0, 1) := by decide +kernel
theorem dX3_goesTo_248 : decode cX3_goesTo 248 = .ok (.goto 4, 3) := by decide +kernel
theorem dX3_goesTo_251 : decode cX3_goesTo 251 = .ok (.iconst (-1), 1) := by decide +kernel
theorem dX3_goesTo_252 : decode cX3_goesTo 252 = .ok (.ireturn, 1) := by decide +kernel
theorem dX3_take_0 : decode cX3_take 0 = .ok (.iload_n 1, 1) := by decide +kernel
theorem dX3_take_1 : decode cX3_take 1 = .ok (.iconst 1, 1) := by decide +kernel
theorem dX3_take_2 : decode cX3_take 2 = .ok (.if_icmp .eq 8, 3) := by decide +kernel
theorem dX3_take_5 : decode cX3_take 5 = .ok (.iload_n 1, 1) := by decide +kernel
theorem dX3_take_6 : decode cX3_take 6 = .ok (.iconst 2, 1) := by decide +kernel
theorem dX3_take_7 : decode cX3_take 7 = .ok (.if_icmp .ne 56, 3) := by decide +kernel
theorem dX3_take_10 : decode cX3_take 10 = .ok (.aload_n 0, 1) := by decide +kernel
theorem dX3_take_11 : decode cX3_take 11 = .ok (.getfield 32, 3) := by decide +kernel
theorem dX3_take_14 : decode cX3_take 14 = .ok (.aload_n 0, 1) := by decide +kernel
theorem dX3_take_15 : decode cX3_take 15 = .ok (.getfield 96, 3) := by decide +kernel
theorem dX3_take_18 : decode cX3_take 18 = .ok (.iload_n 1, 1) := by decide +kernel
theorem dX3_take_19 : decode cX3_take 19 = .ok (.iconst 1, 1) := by decide +kernel
theorem dX3_take_20 : decode cX3_take 20 = .ok (.if_icmp .ne 7, 3) := by decide +kernel
theorem dX3_take_23 : decode cX3_take 23 = .ok (.iload_n 2, 1) := by decide +kernel
theorem dX3_take_24 : decode cX3_take 24 = .ok (.goto 5, 3) := by decide +kernel
theorem dX3_take_27 : decode cX3_take 27 = .ok (.bipush 8, 2) := by decide +kernel
theorem dX3_take_29 : decode cX3_take 29 = .ok (.iastore, 1) := by decide +kernel
theorem dX3_take_30 : decode cX3_take 30 = .ok (.aload_n 0, 1) := by decide +kernel
theorem dX3_take_31 : decode cX3_take 31 = .ok (.getfield 35, 3) := by decide +kernel
theorem dX3_take_34 : decode cX3_take 34 = .ok (.aload_n 0, 1) := by decide +kernel
theorem dX3_take_35 : decode cX3_take 35 = .ok (.getfield 96, 3) := by decide +kernel
theorem dX3_take_38 : decode cX3_take 38 = .ok (.iconst 0, 1) := by decide +kernel
theorem dX3_take_39 : decode cX3_take 39 = .ok (.iastore, 1) := by decide +kernel
theorem dX3_take_40 : decode cX3_take 40 = .ok (.aload_n 0, 1) := by decide +kernel
theorem dX3_take_41 : decode cX3_take 41 = .ok (.getfield 38, 3) := by decide +kernel
theorem dX3_take_44 : decode cX3_take 44 = .ok (.aload_n 0, 1) := by decide +kernel
theorem dX3_take_45 : decode cX3_take 45 = .ok (.getfield 96, 3) := by decide +kernel
theorem dX3_take_48 : decode cX3_take 48 = .ok (.iconst 0, 1) := by decide +kernel
theorem dX3_take_49 : decode cX3_take 49 = .ok (.iastore, 1) := by decide +kernel
theorem dX3_take_50 : decode cX3_take 50 = .ok (.aload_n 0, 1) := by decide +kernel
theorem dX3_take_51 : decode cX3_take 51 = .ok (.dup, 1) := by decide +kernel
theorem dX3_take_52 : decode cX3_take 52 = .ok (.getfield 96, 3) := by decide +kernel
theorem dX3_take_55 : decode cX3_take 55 = .ok (.iconst 1, 1) := by decide +kernel
theorem dX3_take_56 : decode cX3_take 56 = .ok (.iadd, 1) := by decide +kernel
theorem dX3_take_57 : decode cX3_take 57 = .ok (.putfield 96, 3) := by decide +kernel
theorem dX3_take_60 : decode cX3_take 60 = .ok (.goto 72, 3) := by decide +kernel
theorem dX3_take_63 : decode cX3_take 63 = .ok (.iload_n 1, 1) := by decide +kernel
theorem dX3_take_64 : decode cX3_take 64 = .ok (.iconst 4, 1) := by decide +kernel
theorem dX3_take_65 : decode cX3_take 65 = .ok (.if_icmp .ne 23, 3) := by decide +kernel
theorem dX3_take_68 : decode cX3_take 68 = .ok (.aload_n 0, 1) := by decide +kernel
theorem dX3_take_69 : decode cX3_take 69 = .ok (.getfield 35, 3) := by decide +kernel
theorem dX3_take_72 : decode cX3_take 72 = .ok (.aload_n 0, 1) := by decide +kernel
theorem dX3_take_73 : decode cX3_take 73 = .ok (.getfield 96, 3) := by decide +kernel
theorem dX3_take_76 : decode cX3_take 76 = .ok (.iconst 1, 1) := by decide +kernel
theorem dX3_take_77 : decode cX3_take 77 = .ok (.isub, 1) := by decide +kernel
theorem dX3_take_78 : decode cX3_take 78 = .ok (.dup2, 1) := by decide +kernel
theorem dX3_take_79 : decode cX3_take 79 = .ok (.iaload, 1) := by decide +kernel
theorem dX3_take_80 : decode cX3_take 80 = .ok (.iconst 1, 1) := by decide +kernel
theorem dX3_take_81 : decode cX3_take 81 = .ok (.iload_n 2, 1) := by decide +kernel
theorem dX3_take_82 : decode cX3_take 82 = .ok (.ishl, 1) := by decide +kernel
theorem dX3_take_83 : decode cX3_take 83 = .ok (.ior, 1) := by decide +kernel
theorem dX3_take_84 : decode cX3_take 84 = .ok (.iastore, 1) := by decide +kernel
theorem dX3_take_85 : decode cX3_take 85 = .ok (.goto 47, 3) := by decide +kernel
theorem dX3_take_88 : decode cX3_take 88 = .ok (.iload_n 1, 1) := by decide +kernel
theorem dX3_take_89 : decode cX3_take 89 = .ok (.bipush 6, 2) := by decide +kernel
theorem dX3_take_91 : decode cX3_take 91 = .ok (.if_icmp .ne 23, 3) := by decide +kernel
theorem dX3_take_94 : decode cX3_take 94 = .ok (.aload_n 0, 1) := by decide +kernel
theorem dX3_take_95 : decode cX3_take 95 = .ok (.getfield 38, 3) := by decide +kernel
theorem dX3_take_98 : decode cX3_take 98 = .ok (.aload_n 0, 1) := by decide +kernel
theorem dX3_take_99 : decode cX3_take 99 = .ok (.getfield 96, 3) := by decide +kernel
theorem dX3_take_102 : decode cX3_take 102 = .ok (.iconst 1, 1) := by decide +kernel
theorem dX3_take_103 : decode cX3_take 103 = .ok (.isub, 1) := by decide +kernel
theorem dX3_take_104 : decode cX3_take 104 = .ok (.dup2, 1) := by decide +kernel
theorem dX3_take_105 : decode cX3_take 105 = .ok (.iaload, 1) := by decide +kernel
theorem dX3_take_106 : decode cX3_take 106 = .ok (.iconst 1, 1) := by decide +kernel
theorem dX3_take_107 : decode cX3_take 107 = .ok (.iload_n 2, 1) := by decide +kernel
theorem dX3_take_108 : decode cX3_take 108 = .ok (.ishl, 1) := by decide +kernel
theorem dX3_take_109 : decode cX3_take 109 = .ok (.ior, 1) := by decide +kernel
theorem dX3_take_110 : decode cX3_take 110 = .ok (.iastore, 1) := by decide +kernel
theorem dX3_take_111 : decode cX3_take 111 = .ok (.goto 21, 3) := by decide +kernel
theorem dX3_take_114 : decode cX3_take 114 = .ok (.iload_n 1, 1) := by decide +kernel
theorem dX3_take_115 : decode cX3_take 115 = .ok (.bipush 8, 2) := by decide +kernel
theorem dX3_take_117 : decode cX3_take 117 = .ok (.if_icmp .ne 15, 3) := by decide +kernel
theorem dX3_take_120 : decode cX3_take 120 = .ok (.aload_n 0, 1) := by decide +kernel
theorem dX3_take_121 : decode cX3_take 121 = .ok (.dup, 1) := by decide +kernel
theorem dX3_take_122 : decode cX3_take 122 = .ok (.getfield 99, 3) := by decide +kernel
theorem dX3_take_125 : decode cX3_take 125 = .ok (.iconst 1, 1) := by decide +kernel
theorem dX3_take_126 : decode cX3_take 126 = .ok (.iload_n 2, 1) := by decide +kernel
theorem dX3_take_127 : decode cX3_take 127 = .ok (.ishl, 1) := by decide +kernel
theorem dX3_take_128 : decode cX3_take 128 = .ok (.ior, 1) := by decide +kernel
theorem dX3_take_129 : decode cX3_take 129 = .ok (.putfield 99, 3) := by decide +kernel
theorem dX3_take_132 : decode cX3_take 132 = .ok (.return_, 1) := by decide +kernel
set_option maxRecDepth 20000 in
theorem ggX3_rules_X3_next : GoodIn wsX3_rules wsX3_next := goodIn_r _ [21, 1, 5, 22, 4, 23, 24, 25, 26, 27, 28, 29, 30, 31, 20, 32, 41, 42, 43, 44, 45, 46, 47, 48, 49, 50, 51, 52, 53, 54, 55, 56, 57, 58, 59, 60, 61, 62, 63, 64, 65, 66] (by decide +kernel) (by decide +kernel)
set_option maxRecDepth 20000 in
theorem gX3_rules_X3_next : GoodIn wsX3_rules (wsV RX3 102 RX3 yX3_next wsX3_next) := goodIn_app (goodIn_of _ (by decide +kernel)) ggX3_rules_X3_next
set_option maxRecDepth 20000 in
theorem ggX3_rules_X3_goesTo : GoodIn wsX3_rules wsX3_goesTo := goodIn_r _ [36, 2, 41, 42, 43, 44, 45, 46, 47, 48, 49, 50, 51, 52, 53, 54, 55, 56, 57, 58, 59, 60, 61, 62, 63, 64, 65, 66] (by decide +kernel) (by decide +kernel)
set_option maxRecDepth 20000 in
theorem gX3_rules_X3_goesTo : GoodIn wsX3_rules (wsV RX3 106 RX3 yX3_goesTo wsX3_goesTo) := goodIn_app (goodIn_of _ (by decide +kernel)) ggX3_rules_X3_goesTo
set_option maxRecDepth 20000 in
theorem ggX3_rules_X3_take : GoodIn wsX3_rules wsX3_take := goodIn_r _ [40, 8, 2, 10, 12, 3, 41, 42, 43, 44, 45, 46, 47, 48, 49, 50, 51, 52, 53, 54, 55, 56, 57, 58, 59, 60, 61, 62, 63, 64, 65, 66] (by decide +kernel) (by decide +kernel)
set_option maxRecDepth 20000 in
theorem gX3_rules_X3_take : GoodIn wsX3_rules (wsV RX3 110 RX3 yX3_take wsX3_take) := goodIn_app (goodIn_of _ (by decide +kernel)) ggX3_rules_X3_take
theorem dX3_rules_0 : decode cX3_rules 0 = .ok (.aload_n 0, 1) := by decide +kernel
theorem dX3_rules_1 : decode cX3_rules 1 = .ok (.iconst 0, 1) := by decide +kernel
theorem dX3_rules_2 : decode cX3_rules 2 = .ok (.putfield 74, 3) := by decide +kernel
theorem dX3_rules_5 : decode cX3_rules 5 = .ok (.aload_n 0, 1) := by decide +kernel
theorem dX3_rules_6 : decode cX3_rules 6 = .ok (.iconst 0, 1) := by decide +kernel
theorem dX3_rules_7 : decode cX3_rules 7 = .ok (.putfield 96, 3) := by decide +kernel
theorem dX3_rules_10 : decode cX3_rules 10 = .ok (.aload_n 0, 1) := by decide +kernel
theorem dX3_rules_11 : decode cX3_rules 11 = .ok (.iconst 0, 1) := by decide +kernel
theorem dX3_rules_12 : decode cX3_rules 12 = .ok (.putfield 99, 3) := by decide +kernel
theorem dX3_rules_15 : decode cX3_rules 15 = .ok (.iconst 0, 1) := by decide +kernel
theorem dX3_rules_16 : decode cX3_rules 16 = .ok (.istore_n 1, 1) := by decide +kernel
theorem dX3_rules_17 : decode cX3_rules 17 = .ok (.iconst 0, 1) := by decide +kernel
theorem dX3_rules_18 : decode cX3_rules 18 = .ok (.istore_n 2, 1) := by decide +kernel
theorem dX3_rules_19 : decode cX3_rules 19 = .ok (.aload_n 0, 1) := by decide +kernel
theorem dX3_rules_20 : decode cX3_rules 20 = .ok (.invokevirtual 102, 3) := by decide +kernel
theorem dX3_rules_23 : decode cX3_rules 23 = .ok (.istore_n 3, 1) := by decide +kernel
theorem dX3_rules_24 : decode cX3_rules 24 = .ok (.iload_n 3, 1) := by decide +kernel
theorem dX3_rules_25 : decode cX3_rules 25 = .ok (.bipush 14, 2) := by decide +kernel
theorem dX3_rules_27 : decode cX3_rules 27 = .ok (.if_icmp .eq 48, 3) := by decide +kernel
theorem dX3_rules_30 : decode cX3_rules 30 = .ok (.aload_n 0, 1) := by decide +kernel
theorem dX3_rules_31 : decode cX3_rules 31 = .ok (.iload_n 2, 1) := by decide +kernel
theorem dX3_rules_32 : decode cX3_rules 32 = .ok (.iload_n 3, 1) := by decide +kernel
theorem dX3_rules_33 : decode cX3_rules 33 = .ok (.invokevirtual 106, 3) := by decide +kernel
theorem dX3_rules_36 : decode cX3_rules 36 = .ok (.istore_n 2, 1) := by decide +kernel
theorem dX3_rules_37 : decode cX3_rules 37 = .ok (.iload_n 2, 1) := by decide +kernel
theorem dX3_rules_38 : decode cX3_rules 38 = .ok (.ifCond .ge 11, 3) := by decide +kernel
theorem dX3_rules_41 : decode cX3_rules 41 = .ok (.bipush (-10), 2) := by decide +kernel
theorem dX3_rules_43 : decode cX3_rules 43 = .ok (.aload_n 0, 1) := by decide +kernel
theorem dX3_rules_44 : decode cX3_rules 44 = .ok (.getfield 77, 3) := by decide +kernel
theorem dX3_rules_47 : decode cX3_rules 47 = .ok (.isub, 1) := by decide +kernel
theorem dX3_rules_48 : decode cX3_rules 48 = .ok (.ireturn, 1) := by decide +kernel
theorem dX3_rules_49 : decode cX3_rules 49 = .ok (.aload_n 0, 1) := by decide +kernel
theorem dX3_rules_50 : decode cX3_rules 50 = .ok (.iload_n 2, 1) := by decide +kernel
theorem dX3_rules_51 : decode cX3_rules 51 = .ok (.iload_n 3, 1) := by decide +kernel
theorem dX3_rules_52 : decode cX3_rules 52 = .ok (.invokevirtual 110, 3) := by decide +kernel
theorem dX3_rules_55 : decode cX3_rules 55 = .ok (.iload_n 1, 1) := by decide +kernel
theorem dX3_rules_56 : decode cX3_rules 56 = .ok (.iload_n 2, 1) := by decide +kernel
theorem dX3_rules_57 : decode cX3_rules 57 = .ok (.ifCond .ne 7, 3) := by decide +kernel
theorem dX3_rules_60 : decode cX3_rules 60 = .ok (.iconst 1, 1) := by decide +kernel
theorem dX3_rules_61 : decode cX3_rules 61 = .ok (.goto 4, 3) := by decide +kernel
theorem dX3_rules_64 : decode cX3_rules 64 = .ok (.iconst 0, 1) := by decide +kernel
theorem dX3_rules_65 : decode cX3_rules 65 = .ok (.iadd, 1) := by decide +kernel
theorem dX3_rules_66 : decode cX3_rules 66 = .ok (.istore_n 1, 1) := by decide +kernel
theorem dX3_rules_67 : decode cX3_rules 67 = .ok (.aload_n 0, 1) := by decide +kernel
theorem dX3_rules_68 : decode cX3_rules 68 = .ok (.invokevirtual 102, 3) := by decide +kernel
theorem dX3_rules_71 : decode cX3_rules 71 = .ok (.istore_n 3, 1) := by decide +kernel
theorem dX3_rules_72 : decode cX3_rules 72 = .ok (.goto (-48), 3) := by decide +kernel
theorem dX3_rules_75 : decode cX3_rules 75 = .ok (.iload_n 2, 1) := by decide +kernel
theorem dX3_rules_76 : decode cX3_rules 76 = .ok (.ifCond .eq 11, 3) := by decide +kernel
theorem dX3_rules_79 : decode cX3_rules 79 = .ok (.bipush (-10), 2) := by decide +kernel
theorem dX3_rules_81 : decode cX3_rules 81 = .ok (.aload_n 0, 1) := by decide +kernel
theorem dX3_rules_82 : decode cX3_rules 82 = .ok (.getfield 69, 3) := by decide +kernel
theorem dX3_rules_85 : decode cX3_rules 85 = .ok (.isub, 1) := by decide +kernel
theorem dX3_rules_86 : decode cX3_rules 86 = .ok (.ireturn, 1) := by decide +kernel
theorem dX3_rules_87 : decode cX3_rules 87 = .ok (.aload_n 0, 1) := by decide +kernel
theorem dX3_rules_88 : decode cX3_rules 88 = .ok (.aload_n 0, 1) := by decide +kernel
theorem dX3_rules_89 : decode cX3_rules 89 = .ok (.getfield 96, 3) := by decide +kernel
theorem dX3_rules_92 : decode cX3_rules 92 = .ok (.putfield 59, 3) := by decide +kernel
theorem dX3_rules_95 : decode cX3_rules 95 = .ok (.iconst 0, 1) := by decide +kernel
theorem dX3_rules_96 : decode cX3_rules 96 = .ok (.istore 4, 2) := by decide +kernel
theorem dX3_rules_98 : decode cX3_rules 98 = .ok (.iload 4, 2) := by decide +kernel
theorem dX3_rules_100 : decode cX3_rules 100 = .ok (.aload_n 0, 1) := by decide +kernel
theorem dX3_rules_101 : decode cX3_rules 101 = .ok (.getfield 59, 3) := by decide +kernel
theorem dX3_rules_104 : decode cX3_rules 104 = .ok (.if_icmp .ge 51, 3) := by decide +kernel
theorem dX3_rules_107 : decode cX3_rules 107 = .ok (.aload_n 0, 1) := by decide +kernel
