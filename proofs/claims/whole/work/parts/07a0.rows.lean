set_option maxRecDepth 20000 in
theorem ggX2_init_X1_init : GoodIn wsX2_init wsX1_init := goodIn_r _ [17, 18, 2, 3, 19, 20, 27, 28, 29, 30, 31] (by decide +kernel) (by decide +kernel)
set_option maxRecDepth 20000 in
theorem gX2_init_X1_init_n9 : GoodIn wsX2_init (wsX1_init) := ggX2_init_X1_init
set_option maxRecDepth 20000 in
theorem ggX2_init_X0_init : GoodIn wsX2_init wsX0_init := goodIn_r _ [22, 23, 2, 3, 13, 24, 25, 26, 41, 42, 43, 44, 45] (by decide +kernel) (by decide +kernel)
set_option maxRecDepth 20000 in
theorem gX2_init_X0_init_n18 : GoodIn wsX2_init (wsX0_init) := ggX2_init_X0_init
theorem dX2_init_0 : decode cX2_init 0 = .ok (.aload_n 0, 1) := by decide +kernel
theorem dX2_init_1 : decode cX2_init 1 = .ok (.invokespecial 1, 3) := by decide +kernel
theorem dX2_init_4 : decode cX2_init 4 = .ok (.aload_n 0, 1) := by decide +kernel
theorem dX2_init_5 : decode cX2_init 5 = .ok (.new 7, 3) := by decide +kernel
theorem dX2_init_8 : decode cX2_init 8 = .ok (.dup, 1) := by decide +kernel
theorem dX2_init_9 : decode cX2_init 9 = .ok (.invokespecial 9, 3) := by decide +kernel
theorem dX2_init_12 : decode cX2_init 12 = .ok (.putfield 10, 3) := by decide +kernel
theorem dX2_init_15 : decode cX2_init 15 = .ok (.aload_n 0, 1) := by decide +kernel
theorem dX2_init_16 : decode cX2_init 16 = .ok (.new 16, 3) := by decide +kernel
theorem dX2_init_19 : decode cX2_init 19 = .ok (.dup, 1) := by decide +kernel
theorem dX2_init_20 : decode cX2_init 20 = .ok (.invokespecial 18, 3) := by decide +kernel
theorem dX2_init_23 : decode cX2_init 23 = .ok (.putfield 19, 3) := by decide +kernel
theorem dX2_init_26 : decode cX2_init 26 = .ok (.aload_n 0, 1) := by decide +kernel
theorem dX2_init_27 : decode cX2_init 27 = .ok (.new 16, 3) := by decide +kernel
theorem dX2_init_30 : decode cX2_init 30 = .ok (.dup, 1) := by decide +kernel
theorem dX2_init_31 : decode cX2_init 31 = .ok (.invokespecial 18, 3) := by decide +kernel
theorem dX2_init_34 : decode cX2_init 34 = .ok (.putfield 23, 3) := by decide +kernel
theorem dX2_init_37 : decode cX2_init 37 = .ok (.aload_n 0, 1) := by decide +kernel
theorem dX2_init_38 : decode cX2_init 38 = .ok (.iconst 2, 1) := by decide +kernel
theorem dX2_init_39 : decode cX2_init 39 = .ok (.newarray .int, 2) := by decide +kernel
theorem dX2_init_41 : decode cX2_init 41 = .ok (.putfield 26, 3) := by decide +kernel
theorem dX2_init_44 : decode cX2_init 44 = .ok (.aload_n 0, 1) := by decide +kernel
theorem dX2_init_45 : decode cX2_init 45 = .ok (.iconst 2, 1) := by decide +kernel
theorem dX2_init_46 : decode cX2_init 46 = .ok (.newarray .int, 2) := by decide +kernel
theorem dX2_init_48 : decode cX2_init 48 = .ok (.putfield 30, 3) := by decide +kernel
theorem dX2_init_51 : decode cX2_init 51 = .ok (.return_, 1) := by decide +kernel
set_option maxRecDepth 20000 in
theorem ggX2_type_X1_append : GoodIn wsX2_type wsX1_append := goodIn_r _ [5, 6, 7, 17, 18, 19, 20, 21] (by decide +kernel) (by decide +kernel)
set_option maxRecDepth 20000 in
theorem gX2_type_X1_append_n37 : GoodIn wsX2_type (wsX1_append) := ggX2_type_X1_append
theorem dX2_type_0 : decode cX2_type 0 = .ok (.iload_n 3, 1) := by decide +kernel
theorem dX2_type_1 : decode cX2_type 1 = .ok (.iconst 1, 1) := by decide +kernel
theorem dX2_type_2 : decode cX2_type 2 = .ok (.if_icmp .lt 9, 3) := by decide +kernel
theorem dX2_type_5 : decode cX2_type 5 = .ok (.iload_n 3, 1) := by decide +kernel
theorem dX2_type_6 : decode cX2_type 6 = .ok (.bipush 8, 2) := by decide +kernel
theorem dX2_type_8 : decode cX2_type 8 = .ok (.if_icmp .le 5, 3) := by decide +kernel
theorem dX2_type_11 : decode cX2_type 11 = .ok (.iconst (-1), 1) := by decide +kernel
theorem dX2_type_12 : decode cX2_type 12 = .ok (.ireturn, 1) := by decide +kernel
theorem dX2_type_13 : decode cX2_type 13 = .ok (.aload_n 0, 1) := by decide +kernel
theorem dX2_type_14 : decode cX2_type 14 = .ok (.getfield 10, 3) := by decide +kernel
theorem dX2_type_17 : decode cX2_type 17 = .ok (.getfield 33, 3) := by decide +kernel
theorem dX2_type_20 : decode cX2_type 20 = .ok (.iload_n 3, 1) := by decide +kernel
theorem dX2_type_21 : decode cX2_type 21 = .ok (.iadd, 1) := by decide +kernel
theorem dX2_type_22 : decode cX2_type 22 = .ok (.sipush 300, 3) := by decide +kernel
theorem dX2_type_25 : decode cX2_type 25 = .ok (.if_icmp .le 6, 3) := by decide +kernel
theorem dX2_type_28 : decode cX2_type 28 = .ok (.bipush (-3), 2) := by decide +kernel
theorem dX2_type_30 : decode cX2_type 30 = .ok (.ireturn, 1) := by decide +kernel
theorem dX2_type_31 : decode cX2_type 31 = .ok (.bipush 8, 2) := by decide +kernel
theorem dX2_type_33 : decode cX2_type 33 = .ok (.iload_n 3, 1) := by decide +kernel
theorem dX2_type_34 : decode cX2_type 34 = .ok (.iconst 1, 1) := by decide +kernel
theorem dX2_type_35 : decode cX2_type 35 = .ok (.isub, 1) := by decide +kernel
theorem dX2_type_36 : decode cX2_type 36 = .ok (.imul, 1) := by decide +kernel
theorem dX2_type_37 : decode cX2_type 37 = .ok (.istore 4, 2) := by decide +kernel
theorem dX2_type_39 : decode cX2_type 39 = .ok (.iload 4, 2) := by decide +kernel
theorem dX2_type_41 : decode cX2_type 41 = .ok (.ifCond .lt 22, 3) := by decide +kernel
theorem dX2_type_44 : decode cX2_type 44 = .ok (.aload_n 0, 1) := by decide +kernel
theorem dX2_type_45 : decode cX2_type 45 = .ok (.getfield 10, 3) := by decide +kernel
theorem dX2_type_48 : decode cX2_type 48 = .ok (.lload_n 1, 1) := by decide +kernel
theorem dX2_type_49 : decode cX2_type 49 = .ok (.iload 4, 2) := by decide +kernel
theorem dX2_type_51 : decode cX2_type 51 = .ok (.lshr, 1) := by decide +kernel
theorem dX2_type_52 : decode cX2_type 52 = .ok (.l2i, 1) := by decide +kernel
theorem dX2_type_53 : decode cX2_type 53 = .ok (.i2b, 1) := by decide +kernel
theorem dX2_type_54 : decode cX2_type 54 = .ok (.invokevirtual 37, 3) := by decide +kernel
theorem dX2_type_57 : decode cX2_type 57 = .ok (.iinc 4 (-8), 3) := by decide +kernel
theorem dX2_type_60 : decode cX2_type 60 = .ok (.goto (-21), 3) := by decide +kernel
theorem dX2_type_63 : decode cX2_type 63 = .ok (.aload_n 0, 1) := by decide +kernel
theorem dX2_type_64 : decode cX2_type 64 = .ok (.getfield 10, 3) := by decide +kernel
theorem dX2_type_67 : decode cX2_type 67 = .ok (.getfield 33, 3) := by decide +kernel
theorem dX2_type_70 : decode cX2_type 70 = .ok (.ireturn, 1) := by decide +kernel
theorem dX2_clear_0 : decode cX2_clear 0 = .ok (.aload_n 0, 1) := by decide +kernel
theorem dX2_clear_1 : decode cX2_clear 1 = .ok (.getfield 10, 3) := by decide +kernel
theorem dX2_clear_4 : decode cX2_clear 4 = .ok (.getfield 33, 3) := by decide +kernel
theorem dX2_clear_7 : decode cX2_clear 7 = .ok (.istore_n 1, 1) := by decide +kernel
theorem dX2_clear_8 : decode cX2_clear 8 = .ok (.aload_n 0, 1) := by decide +kernel
theorem dX2_clear_9 : decode cX2_clear 9 = .ok (.getfield 10, 3) := by decide +kernel
theorem dX2_clear_12 : decode cX2_clear 12 = .ok (.iconst 0, 1) := by decide +kernel
theorem dX2_clear_13 : decode cX2_clear 13 = .ok (.putfield 33, 3) := by decide +kernel
theorem dX2_clear_16 : decode cX2_clear 16 = .ok (.iload_n 1, 1) := by decide +kernel
theorem dX2_clear_17 : decode cX2_clear 17 = .ok (.ireturn, 1) := by decide +kernel
set_option maxRecDepth 20000 in
theorem ggX2_rules_X1_readInto : GoodIn wsX2_rules wsX1_readInto := goodIn_r _ [10, 11, 12, 13, 14, 15, 16, 17, 18, 19, 20, 21, 8, 22, 23, 24, 25, 26, 27, 28, 29, 30, 31, 32, 33, 34, 35, 36, 37, 38, 39, 40, 41, 42, 43, 44, 45, 46, 47, 48, 49, 50, 51, 52, 53, 54, 55, 56, 57, 58, 59, 60, 61, 62, 63, 64, 65, 66, 67, 68, 69, 70, 80, 81, 82, 83, 84, 85, 86, 87, 88, 89] (by decide +kernel) (by decide +kernel)
set_option maxRecDepth 20000 in
theorem gX2_rules_X1_readInto_n41 : GoodIn wsX2_rules (wsX1_readInto) := ggX2_rules_X1_readInto
theorem dX2_rules_0 : decode cX2_rules 0 = .ok (.aload_n 0, 1) := by decide +kernel
theorem dX2_rules_1 : decode cX2_rules 1 = .ok (.getfield 10, 3) := by decide +kernel
theorem dX2_rules_4 : decode cX2_rules 4 = .ok (.aload_n 0, 1) := by decide +kernel
theorem dX2_rules_5 : decode cX2_rules 5 = .ok (.getfield 23, 3) := by decide +kernel
theorem dX2_rules_8 : decode cX2_rules 8 = .ok (.invokevirtual 41, 3) := by decide +kernel
theorem dX2_rules_11 : decode cX2_rules 11 = .ok (.istore_n 1, 1) := by decide +kernel
theorem dX2_rules_12 : decode cX2_rules 12 = .ok (.iload_n 1, 1) := by decide +kernel
theorem dX2_rules_13 : decode cX2_rules 13 = .ok (.bipush (-9), 2) := by decide +kernel
theorem dX2_rules_15 : decode cX2_rules 15 = .ok (.if_icmp .ne 14, 3) := by decide +kernel
theorem dX2_rules_18 : decode cX2_rules 18 = .ok (.bipush (-10), 2) := by decide +kernel
theorem dX2_rules_20 : decode cX2_rules 20 = .ok (.aload_n 0, 1) := by decide +kernel
theorem dX2_rules_21 : decode cX2_rules 21 = .ok (.getfield 10, 3) := by decide +kernel
theorem dX2_rules_24 : decode cX2_rules 24 = .ok (.getfield 45, 3) := by decide +kernel
theorem dX2_rules_27 : decode cX2_rules 27 = .ok (.isub, 1) := by decide +kernel
theorem dX2_rules_28 : decode cX2_rules 28 = .ok (.ireturn, 1) := by decide +kernel
theorem dX2_rules_29 : decode cX2_rules 29 = .ok (.aload_n 0, 1) := by decide +kernel
theorem dX2_rules_30 : decode cX2_rules 30 = .ok (.getfield 19, 3) := by decide +kernel
theorem dX2_rules_33 : decode cX2_rules 33 = .ok (.astore_n 2, 1) := by decide +kernel
theorem dX2_rules_34 : decode cX2_rules 34 = .ok (.aload_n 0, 1) := by decide +kernel
theorem dX2_rules_35 : decode cX2_rules 35 = .ok (.aload_n 0, 1) := by decide +kernel
theorem dX2_rules_36 : decode cX2_rules 36 = .ok (.getfield 23, 3) := by decide +kernel
theorem dX2_rules_39 : decode cX2_rules 39 = .ok (.putfield 19, 3) := by decide +kernel
theorem dX2_rules_42 : decode cX2_rules 42 = .ok (.aload_n 0, 1) := by decide +kernel
theorem dX2_rules_43 : decode cX2_rules 43 = .ok (.aload_n 2, 1) := by decide +kernel
theorem dX2_rules_44 : decode cX2_rules 44 = .ok (.putfield 23, 3) := by decide +kernel
theorem dX2_rules_47 : decode cX2_rules 47 = .ok (.aload_n 0, 1) := by decide +kernel
theorem dX2_rules_48 : decode cX2_rules 48 = .ok (.iconst 1, 1) := by decide +kernel
theorem dX2_rules_49 : decode cX2_rules 49 = .ok (.aload_n 0, 1) := by decide +kernel
theorem dX2_rules_50 : decode cX2_rules 50 = .ok (.getfield 19, 3) := by decide +kernel
theorem dX2_rules_53 : decode cX2_rules 53 = .ok (.getfield 48, 3) := by decide +kernel
theorem dX2_rules_56 : decode cX2_rules 56 = .ok (.ishl, 1) := by decide +kernel
theorem dX2_rules_57 : decode cX2_rules 57 = .ok (.iconst 1, 1) := by decide +kernel
theorem dX2_rules_58 : decode cX2_rules 58 = .ok (.isub, 1) := by decide +kernel
theorem dX2_rules_59 : decode cX2_rules 59 = .ok (.putfield 51, 3) := by decide +kernel
theorem dX2_rules_62 : decode cX2_rules 62 = .ok (.aload_n 0, 1) := by decide +kernel
theorem dX2_rules_63 : decode cX2_rules 63 = .ok (.iconst 0, 1) := by decide +kernel
theorem dX2_rules_64 : decode cX2_rules 64 = .ok (.putfield 54, 3) := by decide +kernel
theorem dX2_rules_67 : decode cX2_rules 67 = .ok (.aload_n 0, 1) := by decide +kernel
theorem dX2_rules_68 : decode cX2_rules 68 = .ok (.iconst 0, 1) := by decide +kernel
theorem dX2_rules_69 : decode cX2_rules 69 = .ok (.putfield 57, 3) := by decide +kernel
theorem dX2_rules_72 : decode cX2_rules 72 = .ok (.aload_n 0, 1) := by decide +kernel
theorem dX2_rules_73 : decode cX2_rules 73 = .ok (.getfield 10, 3) := by decide +kernel
theorem dX2_rules_76 : decode cX2_rules 76 = .ok (.iconst 0, 1) := by decide +kernel
theorem dX2_rules_77 : decode cX2_rules 77 = .ok (.putfield 33, 3) := by decide +kernel
theorem dX2_rules_80 : decode cX2_rules 80 = .ok (.iload_n 1, 1) := by decide +kernel
theorem dX2_rules_81 : decode cX2_rules 81 = .ok (.ireturn, 1) := by decide +kernel
set_option maxRecDepth 20000 in
theorem ggX2_rule_X2_isRule : GoodIn wsX2_rule wsX2_isRule := goodIn_r _ [7, 1, 11, 12, 13, 14, 15, 16, 17, 18, 19, 20, 21, 22, 23, 24] (by decide +kernel) (by decide +kernel)
set_option maxRecDepth 20000 in
theorem gX2_rule_X2_isRule : GoodIn wsX2_rule (wsV RX2 60 RX2 yX2_isRule wsX2_isRule) := goodIn_app (goodIn_of _ (by decide +kernel)) ggX2_rule_X2_isRule
set_option maxRecDepth 20000 in
theorem ggX2_rule_X2_bitOf : GoodIn wsX2_rule wsX2_bitOf := goodIn_r _ [10] (by decide +kernel) (by decide +kernel)
set_option maxRecDepth 20000 in
theorem gX2_rule_X2_bitOf : GoodIn wsX2_rule (va_wsS RX2 73 yX2_bitOf wsX2_bitOf) := goodIn_app (goodIn_of _ (by decide +kernel)) ggX2_rule_X2_bitOf
theorem dX2_rule_0 : decode cX2_rule 0 = .ok (.aload_n 0, 1) := by decide +kernel
theorem dX2_rule_1 : decode cX2_rule 1 = .ok (.iload_n 1, 1) := by decide +kernel
theorem dX2_rule_2 : decode cX2_rule 2 = .ok (.invokevirtual 60, 3) := by decide +kernel
theorem dX2_rule_5 : decode cX2_rule 5 = .ok (.ifCond .ne 5, 3) := by decide +kernel
theorem dX2_rule_8 : decode cX2_rule 8 = .ok (.iconst (-1), 1) := by decide +kernel
theorem dX2_rule_9 : decode cX2_rule 9 = .ok (.ireturn, 1) := by decide +kernel
theorem dX2_rule_10 : decode cX2_rule 10 = .ok (.iload_n 2, 1) := by decide +kernel
theorem dX2_rule_11 : decode cX2_rule 11 = .ok (.tableswitch 68 0 3 #[29, 39, 49, 59], 29) := by decide +kernel
theorem dX2_rule_40 : decode cX2_rule 40 = .ok (.aload_n 0, 1) := by decide +kernel
theorem dX2_rule_41 : decode cX2_rule 41 = .ok (.getfield 19, 3) := by decide +kernel
theorem dX2_rule_44 : decode cX2_rule 44 = .ok (.getfield 64, 3) := by decide +kernel
theorem dX2_rule_47 : decode cX2_rule 47 = .ok (.iload_n 1, 1) := by decide +kernel
theorem dX2_rule_48 : decode cX2_rule 48 = .ok (.iaload, 1) := by decide +kernel
theorem dX2_rule_49 : decode cX2_rule 49 = .ok (.ireturn, 1) := by decide +kernel
theorem dX2_rule_50 : decode cX2_rule 50 = .ok (.aload_n 0, 1) := by decide +kernel
theorem dX2_rule_51 : decode cX2_rule 51 = .ok (.getfield 19, 3) := by decide +kernel
theorem dX2_rule_54 : decode cX2_rule 54 = .ok (.getfield 67, 3) := by decide +kernel
theorem dX2_rule_57 : decode cX2_rule 57 = .ok (.iload_n 1, 1) := by decide +kernel
theorem dX2_rule_58 : decode cX2_rule 58 = .ok (.iaload, 1) := by decide +kernel
theorem dX2_rule_59 : decode cX2_rule 59 = .ok (.ireturn, 1) := by decide +kernel
theorem dX2_rule_60 : decode cX2_rule 60 = .ok (.aload_n 0, 1) := by decide +kernel
theorem dX2_rule_61 : decode cX2_rule 61 = .ok (.getfield 19, 3) := by decide +kernel
theorem dX2_rule_64 : decode cX2_rule 64 = .ok (.getfield 70, 3) := by decide +kernel
theorem dX2_rule_67 : decode cX2_rule 67 = .ok (.iload_n 1, 1) := by decide +kernel
theorem dX2_rule_68 : decode cX2_rule 68 = .ok (.iaload, 1) := by decide +kernel
theorem dX2_rule_69 : decode cX2_rule 69 = .ok (.ireturn, 1) := by decide +kernel
theorem dX2_rule_70 : decode cX2_rule 70 = .ok (.aload_n 0, 1) := by decide +kernel
theorem dX2_rule_71 : decode cX2_rule 71 = .ok (.getfield 51, 3) := by decide +kernel
theorem dX2_rule_74 : decode cX2_rule 74 = .ok (.iload_n 1, 1) := by decide +kernel
theorem dX2_rule_75 : decode cX2_rule 75 = .ok (.invokestatic 73, 3) := by decide +kernel
theorem dX2_rule_78 : decode cX2_rule 78 = .ok (.ireturn, 1) := by decide +kernel
theorem dX2_rule_79 : decode cX2_rule 79 = .ok (.iconst (-1), 1) := by decide +kernel
theorem dX2_rule_80 : decode cX2_rule 80 = .ok (.ireturn, 1) := by decide +kernel
set_option maxRecDepth 20000 in
theorem ggX2_turn_X2_isRule : GoodIn wsX2_turn wsX2_isRule := goodIn_r _ [6, 7, 17, 18, 19, 20, 21, 22, 23, 24, 25, 26, 27, 28, 29, 30] (by decide +kernel) (by decide +kernel)
set_option maxRecDepth 20000 in
theorem gX2_turn_X2_isRule : GoodIn wsX2_turn (wsV RX2 60 RX2 yX2_isRule wsX2_isRule) := goodIn_app (goodIn_of _ (by decide +kernel)) ggX2_turn_X2_isRule
set_option maxRecDepth 20000 in
theorem ggX2_turn_X2_isBit : GoodIn wsX2_turn wsX2_isBit := goodIn_r _ [10] (by decide +kernel) (by decide +kernel)
set_option maxRecDepth 20000 in
theorem gX2_turn_X2_isBit : GoodIn wsX2_turn (va_wsS RX2 77 yX2_isBit wsX2_isBit) := goodIn_app (goodIn_of _ (by decide +kernel)) ggX2_turn_X2_isBit
set_option maxRecDepth 20000 in
theorem ggX2_turn_X2_bitOf : GoodIn wsX2_turn wsX2_bitOf := goodIn_r _ [13] (by decide +kernel) (by decide +kernel)
set_option maxRecDepth 20000 in
theorem gX2_turn_X2_bitOf : GoodIn wsX2_turn (va_wsS RX2 73 yX2_bitOf wsX2_bitOf) := goodIn_app (goodIn_of _ (by decide +kernel)) ggX2_turn_X2_bitOf
set_option maxRecDepth 20000 in
theorem ggX2_turn_X2_withBit : GoodIn wsX2_turn wsX2_withBit := goodIn_r _ [16] (by decide +kernel) (by decide +kernel)
set_option maxRecDepth 20000 in
theorem gX2_turn_X2_withBit : GoodIn wsX2_turn (va_wsS RX2 80 yX2_withBit wsX2_withBit) := goodIn_app (goodIn_of _ (by decide +kernel)) ggX2_turn_X2_withBit
theorem dX2_turn_0 : decode cX2_turn 0 = .ok (.aload_n 0, 1) := by decide +kernel
theorem dX2_turn_1 : decode cX2_turn 1 = .ok (.iload_n 1, 1) := by decide +kernel
theorem dX2_turn_2 : decode cX2_turn 2 = .ok (.invokevirtual 60, 3) := by decide +kernel
theorem dX2_turn_5 : decode cX2_turn 5 = .ok (.ifCond .eq 10, 3) := by decide +kernel
theorem dX2_turn_8 : decode cX2_turn 8 = .ok (.iload_n 2, 1) := by decide +kernel
theorem dX2_turn_9 : decode cX2_turn 9 = .ok (.invokestatic 77, 3) := by decide +kernel
theorem dX2_turn_12 : decode cX2_turn 12 = .ok (.ifCond .ne 5, 3) := by decide +kernel
theorem dX2_turn_15 : decode cX2_turn 15 = .ok (.iconst (-1), 1) := by decide +kernel
theorem dX2_turn_16 : decode cX2_turn 16 = .ok (.ireturn, 1) := by decide +kernel
theorem dX2_turn_17 : decode cX2_turn 17 = .ok (.aload_n 0, 1) := by decide +kernel
theorem dX2_turn_18 : decode cX2_turn 18 = .ok (.getfield 51, 3) := by decide +kernel
theorem dX2_turn_21 : decode cX2_turn 21 = .ok (.iload_n 1, 1) := by decide +kernel
theorem dX2_turn_22 : decode cX2_turn 22 = .ok (.invokestatic 73, 3) := by decide +kernel
theorem dX2_turn_25 : decode cX2_turn 25 = .ok (.istore_n 3, 1) := by decide +kernel
theorem dX2_turn_26 : decode cX2_turn 26 = .ok (.aload_n 0, 1) := by decide +kernel
theorem dX2_turn_27 : decode cX2_turn 27 = .ok (.aload_n 0, 1) := by decide +kernel
theorem dX2_turn_28 : decode cX2_turn 28 = .ok (.getfield 51, 3) := by decide +kernel
theorem dX2_turn_31 : decode cX2_turn 31 = .ok (.iload_n 1, 1) := by decide +kernel
theorem dX2_turn_32 : decode cX2_turn 32 = .ok (.iload_n 2, 1) := by decide +kernel
theorem dX2_turn_33 : decode cX2_turn 33 = .ok (.invokestatic 80, 3) := by decide +kernel
theorem dX2_turn_36 : decode cX2_turn 36 = .ok (.putfield 51, 3) := by decide +kernel
theorem dX2_turn_39 : decode cX2_turn 39 = .ok (.iload_n 3, 1) := by decide +kernel
theorem dX2_turn_40 : decode cX2_turn 40 = .ok (.ireturn, 1) := by decide +kernel
set_option maxRecDepth 20000 in
theorem ggX2_assume_X2_isSentence : GoodIn wsX2_assume wsX2_isSentence := goodIn_r _ [5] (by decide +kernel) (by decide +kernel)
set_option maxRecDepth 20000 in
theorem gX2_assume_X2_isSentence : GoodIn wsX2_assume (va_wsS RX2 84 yX2_isSentence wsX2_isSentence) := goodIn_app (goodIn_of _ (by decide +kernel)) ggX2_assume_X2_isSentence
set_option maxRecDepth 20000 in
theorem ggX2_assume_X2_isBit : GoodIn wsX2_assume wsX2_isBit := goodIn_r _ [8] (by decide +kernel) (by decide +kernel)
set_option maxRecDepth 20000 in
theorem gX2_assume_X2_isBit : GoodIn wsX2_assume (va_wsS RX2 77 yX2_isBit wsX2_isBit) := goodIn_app (goodIn_of _ (by decide +kernel)) ggX2_assume_X2_isBit
set_option maxRecDepth 20000 in
theorem ggX2_assume_X2_bitOf : GoodIn wsX2_assume wsX2_bitOf := goodIn_r _ [11] (by decide +kernel) (by decide +kernel)
set_option maxRecDepth 20000 in
theorem gX2_assume_X2_bitOf : GoodIn wsX2_assume (va_wsS RX2 73 yX2_bitOf wsX2_bitOf) := goodIn_app (goodIn_of _ (by decide +kernel)) ggX2_assume_X2_bitOf
set_option maxRecDepth 20000 in
theorem ggX2_assume_X2_withBit : GoodIn wsX2_assume wsX2_withBit := goodIn_r _ [14] (by decide +kernel) (by decide +kernel)
set_option maxRecDepth 20000 in
theorem gX2_assume_X2_withBit : GoodIn wsX2_assume (va_wsS RX2 80 yX2_withBit wsX2_withBit) := goodIn_app (goodIn_of _ (by decide +kernel)) ggX2_assume_X2_withBit
theorem dX2_assume_0 : decode cX2_assume 0 = .ok (.iload_n 1, 1) := by decide +kernel
theorem dX2_assume_1 : decode cX2_assume 1 = .ok (.invokestatic 84, 3) := by decide +kernel
theorem dX2_assume_4 : decode cX2_assume 4 = .ok (.ifCond .eq 10, 3) := by decide +kernel
theorem dX2_assume_7 : decode cX2_assume 7 = .ok (.iload_n 2, 1) := by decide +kernel
theorem dX2_assume_8 : decode cX2_assume 8 = .ok (.invokestatic 77, 3) := by decide +kernel
theorem dX2_assume_11 : decode cX2_assume 11 = .ok (.ifCond .ne 5, 3) := by decide +kernel
theorem dX2_assume_14 : decode cX2_assume 14 = .ok (.iconst (-1), 1) := by decide +kernel
theorem dX2_assume_15 : decode cX2_assume 15 = .ok (.ireturn, 1) := by decide +kernel
theorem dX2_assume_16 : decode cX2_assume 16 = .ok (.aload_n 0, 1) := by decide +kernel
theorem dX2_assume_17 : decode cX2_assume 17 = .ok (.getfield 54, 3) := by decide +kernel
theorem dX2_assume_20 : decode cX2_assume 20 = .ok (.iload_n 1, 1) := by decide +kernel
theorem dX2_assume_21 : decode cX2_assume 21 = .ok (.invokestatic 73, 3) := by decide +kernel
theorem dX2_assume_24 : decode cX2_assume 24 = .ok (.istore_n 3, 1) := by decide +kernel
theorem dX2_assume_25 : decode cX2_assume 25 = .ok (.aload_n 0, 1) := by decide +kernel
theorem dX2_assume_26 : decode cX2_assume 26 = .ok (.aload_n 0, 1) := by decide +kernel
theorem dX2_assume_27 : decode cX2_assume 27 = .ok (.getfield 54, 3) := by decide +kernel
theorem dX2_assume_30 : decode cX2_assume 30 = .ok (.iload_n 1, 1) := by decide +kernel
theorem dX2_assume_31 : decode cX2_assume 31 = .ok (.iload_n 2, 1) := by decide +kernel
theorem dX2_assume_32 : decode cX2_assume 32 = .ok (.invokestatic 80, 3) := by decide +kernel
theorem dX2_assume_35 : decode cX2_assume 35 = .ok (.putfield 54, 3) := by decide +kernel
theorem dX2_assume_38 : decode cX2_assume 38 = .ok (.iload_n 3, 1) := by decide +kernel
theorem dX2_assume_39 : decode cX2_assume 39 = .ok (.ireturn, 1) := by decide +kernel
set_option maxRecDepth 20000 in
theorem ggX2_sets_X0_upholds : GoodIn wsX2_sets wsX0_upholds := goodIn_r _ [7, 8, 9, 10, 11, 5, 12, 13, 14, 15, 16, 17, 18, 19, 20, 21, 22, 23, 24, 25, 26, 27, 28, 29, 30, 31, 41, 42, 43, 44, 45] (by decide +kernel) (by decide +kernel)
set_option maxRecDepth 20000 in
theorem gX2_sets_X0_upholds_n87 : GoodIn wsX2_sets (wsX0_upholds) := ggX2_sets_X0_upholds
theorem dX2_sets_0 : decode cX2_sets 0 = .ok (.iconst 0, 1) := by decide +kernel
theorem dX2_sets_1 : decode cX2_sets 1 = .ok (.istore_n 1, 1) := by decide +kernel
theorem dX2_sets_2 : decode cX2_sets 2 = .ok (.iconst 0, 1) := by decide +kernel
theorem dX2_sets_3 : decode cX2_sets 3 = .ok (.istore_n 2, 1) := by decide +kernel
theorem dX2_sets_4 : decode cX2_sets 4 = .ok (.iload_n 2, 1) := by decide +kernel
theorem dX2_sets_5 : decode cX2_sets 5 = .ok (.sipush 255, 3) := by decide +kernel
theorem dX2_sets_8 : decode cX2_sets 8 = .ok (.if_icmp .gt 31, 3) := by decide +kernel
theorem dX2_sets_11 : decode cX2_sets 11 = .ok (.aload_n 0, 1) := by decide +kernel
theorem dX2_sets_12 : decode cX2_sets 12 = .ok (.getfield 19, 3) := by decide +kernel
theorem dX2_sets_15 : decode cX2_sets 15 = .ok (.iload_n 2, 1) := by decide +kernel
theorem dX2_sets_16 : decode cX2_sets 16 = .ok (.aload_n 0, 1) := by decide +kernel
theorem dX2_sets_17 : decode cX2_sets 17 = .ok (.getfield 51, 3) := by decide +kernel
theorem dX2_sets_20 : decode cX2_sets 20 = .ok (.aload_n 0, 1) := by decide +kernel
theorem dX2_sets_21 : decode cX2_sets 21 = .ok (.getfield 54, 3) := by decide +kernel
theorem dX2_sets_24 : decode cX2_sets 24 = .ok (.invokevirtual 87, 3) := by decide +kernel
theorem dX2_sets_27 : decode cX2_sets 27 = .ok (.ifCond .eq 6, 3) := by decide +kernel
theorem dX2_sets_30 : decode cX2_sets 30 = .ok (.iinc 1 1, 3) := by decide +kernel
theorem dX2_sets_33 : decode cX2_sets 33 = .ok (.iinc 2 1, 3) := by decide +kernel
theorem dX2_sets_36 : decode cX2_sets 36 = .ok (.goto (-32), 3) := by decide +kernel
theorem dX2_sets_39 : decode cX2_sets 39 = .ok (.iload_n 1, 1) := by decide +kernel
theorem dX2_sets_40 : decode cX2_sets 40 = .ok (.ireturn, 1) := by decide +kernel
set_option maxRecDepth 20000 in
theorem ggX2_set_X2_standingSet : GoodIn wsX2_set wsX2_standingSet := goodIn_r _ [5, 6, 7, 8, 9, 10, 11, 12, 13, 14, 15, 16, 17, 18, 19, 20, 4, 21, 22, 23, 24, 25, 26, 27, 28, 29, 30, 31, 32, 33, 34, 35, 36, 37, 38, 39, 40, 41, 42, 43, 44, 45, 46, 47, 48, 49] (by decide +kernel) (by decide +kernel)
set_option maxRecDepth 20000 in
theorem gX2_set_X2_standingSet : GoodIn wsX2_set (wsV RX2 91 RX2 yX2_standingSet wsX2_standingSet) := goodIn_app (goodIn_of _ (by decide +kernel)) ggX2_set_X2_standingSet
theorem dX2_set_0 : decode cX2_set 0 = .ok (.iload_n 1, 1) := by decide +kernel
theorem dX2_set_1 : decode cX2_set 1 = .ok (.ifCond .ge 7, 3) := by decide +kernel
theorem dX2_set_4 : decode cX2_set 4 = .ok (.iconst (-1), 1) := by decide +kernel
theorem dX2_set_5 : decode cX2_set 5 = .ok (.goto 8, 3) := by decide +kernel
theorem dX2_set_8 : decode cX2_set 8 = .ok (.aload_n 0, 1) := by decide +kernel
theorem dX2_set_9 : decode cX2_set 9 = .ok (.iload_n 1, 1) := by decide +kernel
theorem dX2_set_10 : decode cX2_set 10 = .ok (.invokevirtual 91, 3) := by decide +kernel
theorem dX2_set_13 : decode cX2_set 13 = .ok (.ireturn, 1) := by decide +kernel
set_option maxRecDepth 20000 in
theorem ggX2_stands_X2_isSet : GoodIn wsX2_stands wsX2_isSet := goodIn_r _ [7] (by decide +kernel) (by decide +kernel)
set_option maxRecDepth 20000 in
theorem gX2_stands_X2_isSet : GoodIn wsX2_stands (va_wsS RX2 95 yX2_isSet wsX2_isSet) := goodIn_app (goodIn_of _ (by decide +kernel)) ggX2_stands_X2_isSet
set_option maxRecDepth 20000 in
theorem ggX2_stands_X0_upholds : GoodIn wsX2_stands wsX0_upholds := goodIn_r _ [11, 12, 13, 14, 15, 9, 16, 17, 18, 19, 6, 20, 21, 22, 23, 24, 25, 26, 27, 28, 29, 30, 31, 32, 33, 34, 44, 45, 46, 47, 48] (by decide +kernel) (by decide +kernel)
set_option maxRecDepth 20000 in
theorem gX2_stands_X0_upholds_n87 : GoodIn wsX2_stands (wsX0_upholds) := ggX2_stands_X0_upholds
theorem dX2_stands_0 : decode cX2_stands 0 = .ok (.iload_n 1, 1) := by decide +kernel
theorem dX2_stands_1 : decode cX2_stands 1 = .ok (.invokestatic 95, 3) := by decide +kernel
theorem dX2_stands_4 : decode cX2_stands 4 = .ok (.ifCond .ne 5, 3) := by decide +kernel
theorem dX2_stands_7 : decode cX2_stands 7 = .ok (.iconst (-1), 1) := by decide +kernel
theorem dX2_stands_8 : decode cX2_stands 8 = .ok (.ireturn, 1) := by decide +kernel
theorem dX2_stands_9 : decode cX2_stands 9 = .ok (.aload_n 0, 1) := by decide +kernel
theorem dX2_stands_10 : decode cX2_stands 10 = .ok (.getfield 19, 3) := by decide +kernel
theorem dX2_stands_13 : decode cX2_stands 13 = .ok (.iload_n 1, 1) := by decide +kernel
theorem dX2_stands_14 : decode cX2_stands 14 = .ok (.aload_n 0, 1) := by decide +kernel
theorem dX2_stands_15 : decode cX2_stands 15 = .ok (.getfield 51, 3) := by decide +kernel
theorem dX2_stands_18 : decode cX2_stands 18 = .ok (.aload_n 0, 1) := by decide +kernel
theorem dX2_stands_19 : decode cX2_stands 19 = .ok (.getfield 54, 3) := by decide +kernel
theorem dX2_stands_22 : decode cX2_stands 22 = .ok (.invokevirtual 87, 3) := by decide +kernel
theorem dX2_stands_25 : decode cX2_stands 25 = .ok (.ifCond .eq 7, 3) := by decide +kernel
theorem dX2_stands_28 : decode cX2_stands 28 = .ok (.iconst 1, 1) := by decide +kernel
theorem dX2_stands_29 : decode cX2_stands 29 = .ok (.goto 4, 3) := by decide +kernel
theorem dX2_stands_32 : decode cX2_stands 32 = .ok (.iconst 0, 1) := by decide +kernel
theorem dX2_stands_33 : decode cX2_stands 33 = .ok (.ireturn, 1) := by decide +kernel
set_option maxRecDepth 20000 in
theorem ggX2_holds_X2_isBit : GoodIn wsX2_holds wsX2_isBit := goodIn_r _ [7] (by decide +kernel) (by decide +kernel)
set_option maxRecDepth 20000 in
theorem gX2_holds_X2_isBit : GoodIn wsX2_holds (va_wsS RX2 77 yX2_isBit wsX2_isBit) := goodIn_app (goodIn_of _ (by decide +kernel)) ggX2_holds_X2_isBit
set_option maxRecDepth 20000 in
theorem ggX2_holds_X0_upholds : GoodIn wsX2_holds wsX0_upholds := goodIn_r _ [11, 12, 13, 14, 15, 9, 16, 17, 18, 19, 6, 20, 21, 22, 23, 24, 25, 26, 27, 28, 29, 30, 31, 32, 33, 34, 44, 45, 46, 47, 48] (by decide +kernel) (by decide +kernel)
set_option maxRecDepth 20000 in
theorem gX2_holds_X0_upholds_n87 : GoodIn wsX2_holds (wsX0_upholds) := ggX2_holds_X0_upholds
theorem dX2_holds_0 : decode cX2_holds 0 = .ok (.iload_n 1, 1) := by decide +kernel
theorem dX2_holds_1 : decode cX2_holds 1 = .ok (.invokestatic 77, 3) := by decide +kernel
theorem dX2_holds_4 : decode cX2_holds 4 = .ok (.ifCond .ne 5, 3) := by decide +kernel
theorem dX2_holds_7 : decode cX2_holds 7 = .ok (.iconst (-1), 1) := by decide +kernel
theorem dX2_holds_8 : decode cX2_holds 8 = .ok (.ireturn, 1) := by decide +kernel
theorem dX2_holds_9 : decode cX2_holds 9 = .ok (.iconst 0, 1) := by decide +kernel
theorem dX2_holds_10 : decode cX2_holds 10 = .ok (.istore_n 2, 1) := by decide +kernel
theorem dX2_holds_11 : decode cX2_holds 11 = .ok (.sipush 255, 3) := by decide +kernel
theorem dX2_holds_14 : decode cX2_holds 14 = .ok (.istore_n 3, 1) := by decide +kernel
theorem dX2_holds_15 : decode cX2_holds 15 = .ok (.iconst 0, 1) := by decide +kernel
theorem dX2_holds_16 : decode cX2_holds 16 = .ok (.istore 4, 2) := by decide +kernel
theorem dX2_holds_18 : decode cX2_holds 18 = .ok (.iload 4, 2) := by decide +kernel
theorem dX2_holds_20 : decode cX2_holds 20 = .ok (.sipush 255, 3) := by decide +kernel
theorem dX2_holds_23 : decode cX2_holds 23 = .ok (.if_icmp .gt 39, 3) := by decide +kernel
theorem dX2_holds_26 : decode cX2_holds 26 = .ok (.aload_n 0, 1) := by decide +kernel
theorem dX2_holds_27 : decode cX2_holds 27 = .ok (.getfield 19, 3) := by decide +kernel
theorem dX2_holds_30 : decode cX2_holds 30 = .ok (.iload 4, 2) := by decide +kernel
theorem dX2_holds_32 : decode cX2_holds 32 = .ok (.aload_n 0, 1) := by decide +kernel
theorem dX2_holds_33 : decode cX2_holds 33 = .ok (.getfield 51, 3) := by decide +kernel
theorem dX2_holds_36 : decode cX2_holds 36 = .ok (.aload_n 0, 1) := by decide +kernel
theorem dX2_holds_37 : decode cX2_holds 37 = .ok (.getfield 54, 3) := by decide +kernel
theorem dX2_holds_40 : decode cX2_holds 40 = .ok (.invokevirtual 87, 3) := by decide +kernel
theorem dX2_holds_43 : decode cX2_holds 43 = .ok (.ifCond .eq 13, 3) := by decide +kernel
theorem dX2_holds_46 : decode cX2_holds 46 = .ok (.iload_n 2, 1) := by decide +kernel
theorem dX2_holds_47 : decode cX2_holds 47 = .ok (.iload 4, 2) := by decide +kernel
theorem dX2_holds_49 : decode cX2_holds 49 = .ok (.ior, 1) := by decide +kernel
theorem dX2_holds_50 : decode cX2_holds 50 = .ok (.istore_n 2, 1) := by decide +kernel
theorem dX2_holds_51 : decode cX2_holds 51 = .ok (.iload_n 3, 1) := by decide +kernel
theorem dX2_holds_52 : decode cX2_holds 52 = .ok (.iload 4, 2) := by decide +kernel
theorem dX2_holds_54 : decode cX2_holds 54 = .ok (.iand, 1) := by decide +kernel
theorem dX2_holds_55 : decode cX2_holds 55 = .ok (.istore_n 3, 1) := by decide +kernel
theorem dX2_holds_56 : decode cX2_holds 56 = .ok (.iinc 4 1, 3) := by decide +kernel
theorem dX2_holds_59 : decode cX2_holds 59 = .ok (.goto (-41), 3) := by decide +kernel
theorem dX2_holds_62 : decode cX2_holds 62 = .ok (.iload_n 1, 1) := by decide +kernel
theorem dX2_holds_63 : decode cX2_holds 63 = .ok (.ifCond .ne 7, 3) := by decide +kernel
theorem dX2_holds_66 : decode cX2_holds 66 = .ok (.iload_n 2, 1) := by decide +kernel
theorem dX2_holds_67 : decode cX2_holds 67 = .ok (.goto 4, 3) := by decide +kernel
theorem dX2_holds_70 : decode cX2_holds 70 = .ok (.iload_n 3, 1) := by decide +kernel
theorem dX2_holds_71 : decode cX2_holds 71 = .ok (.ireturn, 1) := by decide +kernel
set_option maxRecDepth 20000 in
theorem ggX2_known_X2_isSentence : GoodIn wsX2_known wsX2_isSentence := goodIn_r _ [7] (by decide +kernel) (by decide +kernel)
set_option maxRecDepth 20000 in
theorem gX2_known_X2_isSentence : GoodIn wsX2_known (va_wsS RX2 84 yX2_isSentence wsX2_isSentence) := goodIn_app (goodIn_of _ (by decide +kernel)) ggX2_known_X2_isSentence
set_option maxRecDepth 20000 in
theorem ggX2_known_X0_comesOf : GoodIn wsX2_known wsX0_comesOf := goodIn_r _ [11, 12, 13, 14, 9, 15, 16, 17, 18, 6, 19, 20, 21, 22, 23, 24, 25, 36, 37, 38, 39, 40] (by decide +kernel) (by decide +kernel)
set_option maxRecDepth 20000 in
theorem gX2_known_X0_comesOf_n98 : GoodIn wsX2_known (wsX0_comesOf) := ggX2_known_X0_comesOf
set_option maxRecDepth 20000 in
theorem ggX2_known_X2_bitOf : GoodIn wsX2_known wsX2_bitOf := goodIn_r _ [19] (by decide +kernel) (by decide +kernel)
set_option maxRecDepth 20000 in
theorem gX2_known_X2_bitOf : GoodIn wsX2_known (va_wsS RX2 73 yX2_bitOf wsX2_bitOf) := goodIn_app (goodIn_of _ (by decide +kernel)) ggX2_known_X2_bitOf
theorem dX2_known_0 : decode cX2_known 0 = .ok (.iload_n 1, 1) := by decide +kernel
theorem dX2_known_1 : decode cX2_known 1 = .ok (.invokestatic 84, 3) := by decide +kernel
theorem dX2_known_4 : decode cX2_known 4 = .ok (.ifCond .ne 5, 3) := by decide +kernel
theorem dX2_known_7 : decode cX2_known 7 = .ok (.iconst (-1), 1) := by decide +kernel
theorem dX2_known_8 : decode cX2_known 8 = .ok (.ireturn, 1) := by decide +kernel
theorem dX2_known_9 : decode cX2_known 9 = .ok (.iconst 0, 1) := by decide +kernel
theorem dX2_known_10 : decode cX2_known 10 = .ok (.istore_n 2, 1) := by decide +kernel
theorem dX2_known_11 : decode cX2_known 11 = .ok (.sipush 255, 3) := by decide +kernel
theorem dX2_known_14 : decode cX2_known 14 = .ok (.istore_n 3, 1) := by decide +kernel
theorem dX2_known_15 : decode cX2_known 15 = .ok (.iconst 0, 1) := by decide +kernel
theorem dX2_known_16 : decode cX2_known 16 = .ok (.istore 4, 2) := by decide +kernel
theorem dX2_known_18 : decode cX2_known 18 = .ok (.iload 4, 2) := by decide +kernel
theorem dX2_known_20 : decode cX2_known 20 = .ok (.bipush 16, 2) := by decide +kernel
theorem dX2_known_22 : decode cX2_known 22 = .ok (.if_icmp .gt 72, 3) := by decide +kernel
theorem dX2_known_25 : decode cX2_known 25 = .ok (.iload_n 2, 1) := by decide +kernel
theorem dX2_known_26 : decode cX2_known 26 = .ok (.istore 5, 2) := by decide +kernel
theorem dX2_known_28 : decode cX2_known 28 = .ok (.iload_n 3, 1) := by decide +kernel
theorem dX2_known_29 : decode cX2_known 29 = .ok (.istore 6, 2) := by decide +kernel
theorem dX2_known_31 : decode cX2_known 31 = .ok (.aload_n 0, 1) := by decide +kernel
theorem dX2_known_32 : decode cX2_known 32 = .ok (.getfield 19, 3) := by decide +kernel
theorem dX2_known_35 : decode cX2_known 35 = .ok (.aload_n 0, 1) := by decide +kernel
theorem dX2_known_36 : decode cX2_known 36 = .ok (.getfield 54, 3) := by decide +kernel
theorem dX2_known_39 : decode cX2_known 39 = .ok (.aload_n 0, 1) := by decide +kernel
theorem dX2_known_40 : decode cX2_known 40 = .ok (.getfield 51, 3) := by decide +kernel
theorem dX2_known_43 : decode cX2_known 43 = .ok (.iload_n 3, 1) := by decide +kernel
theorem dX2_known_44 : decode cX2_known 44 = .ok (.invokevirtual 98, 3) := by decide +kernel
theorem dX2_known_47 : decode cX2_known 47 = .ok (.istore_n 2, 1) := by decide +kernel
theorem dX2_known_48 : decode cX2_known 48 = .ok (.aload_n 0, 1) := by decide +kernel
theorem dX2_known_49 : decode cX2_known 49 = .ok (.getfield 19, 3) := by decide +kernel
theorem dX2_known_52 : decode cX2_known 52 = .ok (.aload_n 0, 1) := by decide +kernel
theorem dX2_known_53 : decode cX2_known 53 = .ok (.getfield 54, 3) := by decide +kernel
theorem dX2_known_56 : decode cX2_known 56 = .ok (.aload_n 0, 1) := by decide +kernel
theorem dX2_known_57 : decode cX2_known 57 = .ok (.getfield 19, 3) := by decide +kernel
theorem dX2_known_60 : decode cX2_known 60 = .ok (.getfield 101, 3) := by decide +kernel
theorem dX2_known_63 : decode cX2_known 63 = .ok (.ior, 1) := by decide +kernel
theorem dX2_known_64 : decode cX2_known 64 = .ok (.aload_n 0, 1) := by decide +kernel
theorem dX2_known_65 : decode cX2_known 65 = .ok (.getfield 51, 3) := by decide +kernel
theorem dX2_known_68 : decode cX2_known 68 = .ok (.iload_n 2, 1) := by decide +kernel
theorem dX2_known_69 : decode cX2_known 69 = .ok (.invokevirtual 98, 3) := by decide +kernel
theorem dX2_known_72 : decode cX2_known 72 = .ok (.istore_n 3, 1) := by decide +kernel
theorem dX2_known_73 : decode cX2_known 73 = .ok (.iload_n 2, 1) := by decide +kernel
theorem dX2_known_74 : decode cX2_known 74 = .ok (.iload 5, 2) := by decide +kernel
theorem dX2_known_76 : decode cX2_known 76 = .ok (.if_icmp .ne 12, 3) := by decide +kernel
theorem dX2_known_79 : decode cX2_known 79 = .ok (.iload_n 3, 1) := by decide +kernel
theorem dX2_known_80 : decode cX2_known 80 = .ok (.iload 6, 2) := by decide +kernel
theorem dX2_known_82 : decode cX2_known 82 = .ok (.if_icmp .ne 6, 3) := by decide +kernel
theorem dX2_known_85 : decode cX2_known 85 = .ok (.goto 9, 3) := by decide +kernel
theorem dX2_known_88 : decode cX2_known 88 = .ok (.iinc 4 1, 3) := by decide +kernel
theorem dX2_known_91 : decode cX2_known 91 = .ok (.goto (-73), 3) := by decide +kernel
theorem dX2_known_94 : decode cX2_known 94 = .ok (.iload_n 2, 1) := by decide +kernel
theorem dX2_known_95 : decode cX2_known 95 = .ok (.iload_n 1, 1) := by decide +kernel
theorem dX2_known_96 : decode cX2_known 96 = .ok (.invokestatic 73, 3) := by decide +kernel
theorem dX2_known_99 : decode cX2_known 99 = .ok (.iconst 1, 1) := by decide +kernel
theorem dX2_known_100 : decode cX2_known 100 = .ok (.if_icmp .ne 5, 3) := by decide +kernel
theorem dX2_known_103 : decode cX2_known 103 = .ok (.iconst 1, 1) := by decide +kernel
theorem dX2_known_104 : decode cX2_known 104 = .ok (.ireturn, 1) := by decide +kernel
theorem dX2_known_105 : decode cX2_known 105 = .ok (.iload_n 3, 1) := by decide +kernel
theorem dX2_known_106 : decode cX2_known 106 = .ok (.iload_n 1, 1) := by decide +kernel
theorem dX2_known_107 : decode cX2_known 107 = .ok (.invokestatic 73, 3) := by decide +kernel
theorem dX2_known_110 : decode cX2_known 110 = .ok (.ifCond .ne 7, 3) := by decide +kernel
theorem dX2_known_113 : decode cX2_known 113 = .ok (.iconst 0, 1) := by decide +kernel
theorem dX2_known_114 : decode cX2_known 114 = .ok (.goto 5, 3) := by decide +kernel
theorem dX2_known_117 : decode cX2_known 117 = .ok (.bipush (-9), 2) := by decide +kernel
theorem dX2_known_119 : decode cX2_known 119 = .ok (.ireturn, 1) := by decide +kernel
set_option maxRecDepth 20000 in
theorem ggX2_why_X2_isSentence : GoodIn wsX2_why wsX2_isSentence := goodIn_r _ [7] (by decide +kernel) (by decide +kernel)
set_option maxRecDepth 20000 in
theorem gX2_why_X2_isSentence : GoodIn wsX2_why (va_wsS RX2 84 yX2_isSentence wsX2_isSentence) := goodIn_app (goodIn_of _ (by decide +kernel)) ggX2_why_X2_isSentence
set_option maxRecDepth 20000 in
theorem ggX2_why_X2_isBit : GoodIn wsX2_why wsX2_isBit := goodIn_r _ [10] (by decide +kernel) (by decide +kernel)
set_option maxRecDepth 20000 in
theorem gX2_why_X2_isBit : GoodIn wsX2_why (va_wsS RX2 77 yX2_isBit wsX2_isBit) := goodIn_app (goodIn_of _ (by decide +kernel)) ggX2_why_X2_isBit
set_option maxRecDepth 20000 in
theorem ggX2_why_X2_standingSet : GoodIn wsX2_why wsX2_standingSet := goodIn_r _ [14, 2, 3, 1, 15, 16, 17, 18, 19, 20, 21, 22, 23, 24, 25, 26, 6, 27, 28, 29, 30, 31, 32, 33, 34, 35, 36, 37, 38, 39, 40, 41, 46, 47, 48, 49, 50, 51, 52, 53, 54, 55, 56, 57, 58, 59] (by decide +kernel) (by decide +kernel)
set_option maxRecDepth 20000 in
theorem gX2_why_X2_standingSet : GoodIn wsX2_why (wsV RX2 91 RX2 yX2_standingSet wsX2_standingSet) := goodIn_app (goodIn_of _ (by decide +kernel)) ggX2_why_X2_standingSet
set_option maxRecDepth 20000 in
theorem ggX2_why_X2_bitOf : GoodIn wsX2_why wsX2_bitOf := goodIn_r _ [27] (by decide +kernel) (by decide +kernel)
set_option maxRecDepth 20000 in
theorem gX2_why_X2_bitOf : GoodIn wsX2_why (va_wsS RX2 73 yX2_bitOf wsX2_bitOf) := goodIn_app (goodIn_of _ (by decide +kernel)) ggX2_why_X2_bitOf
set_option maxRecDepth 20000 in
theorem ggX2_why_X0_firstRuleBringing : GoodIn wsX2_why wsX0_firstRuleBringing := goodIn_r _ [45, 24, 25, 26, 6, 27, 28, 29, 30, 16, 31, 32, 33, 55, 56, 57, 58, 59] (by decide +kernel) (by decide +kernel)
set_option maxRecDepth 20000 in
theorem gX2_why_X0_firstRuleBringing_n104 : GoodIn wsX2_why (wsX0_firstRuleBringing) := ggX2_why_X0_firstRuleBringing
set_option maxRecDepth 20000 in
theorem ggX2_why_X0_nextRound : GoodIn wsX2_why wsX0_nextRound := goodIn_r _ [41, 24, 25, 26, 6, 27, 28, 29, 30, 16, 31, 32, 33, 55, 56, 57, 58, 59] (by decide +kernel) (by decide +kernel)
set_option maxRecDepth 20000 in
theorem gX2_why_X0_nextRound_n108 : GoodIn wsX2_why (wsX0_nextRound) := ggX2_why_X0_nextRound
theorem dX2_why_0 : decode cX2_why 0 = .ok (.iload_n 1, 1) := by decide +kernel
theorem dX2_why_1 : decode cX2_why 1 = .ok (.ifCond .lt 17, 3) := by decide +kernel
theorem dX2_why_4 : decode cX2_why 4 = .ok (.iload_n 2, 1) := by decide +kernel
theorem dX2_why_5 : decode cX2_why 5 = .ok (.invokestatic 84, 3) := by decide +kernel
theorem dX2_why_8 : decode cX2_why 8 = .ok (.ifCond .eq 10, 3) := by decide +kernel
theorem dX2_why_11 : decode cX2_why 11 = .ok (.iload_n 3, 1) := by decide +kernel
theorem dX2_why_12 : decode cX2_why 12 = .ok (.invokestatic 77, 3) := by decide +kernel
theorem dX2_why_15 : decode cX2_why 15 = .ok (.ifCond .ne 5, 3) := by decide +kernel
theorem dX2_why_18 : decode cX2_why 18 = .ok (.iconst (-1), 1) := by decide +kernel
theorem dX2_why_19 : decode cX2_why 19 = .ok (.ireturn, 1) := by decide +kernel
theorem dX2_why_20 : decode cX2_why 20 = .ok (.aload_n 0, 1) := by decide +kernel
theorem dX2_why_21 : decode cX2_why 21 = .ok (.iload_n 1, 1) := by decide +kernel
theorem dX2_why_22 : decode cX2_why 22 = .ok (.invokevirtual 91, 3) := by decide +kernel
theorem dX2_why_25 : decode cX2_why 25 = .ok (.istore 4, 2) := by decide +kernel
theorem dX2_why_27 : decode cX2_why 27 = .ok (.iload 4, 2) := by decide +kernel
theorem dX2_why_29 : decode cX2_why 29 = .ok (.bipush (-9), 2) := by decide +kernel
theorem dX2_why_31 : decode cX2_why 31 = .ok (.if_icmp .eq 12, 3) := by decide +kernel
theorem dX2_why_34 : decode cX2_why 34 = .ok (.iload 4, 2) := by decide +kernel
theorem dX2_why_36 : decode cX2_why 36 = .ok (.iload_n 2, 1) := by decide +kernel
theorem dX2_why_37 : decode cX2_why 37 = .ok (.invokestatic 73, 3) := by decide +kernel
theorem dX2_why_40 : decode cX2_why 40 = .ok (.ifCond .ne 6, 3) := by decide +kernel
theorem dX2_why_43 : decode cX2_why 43 = .ok (.bipush (-9), 2) := by decide +kernel
theorem dX2_why_45 : decode cX2_why 45 = .ok (.ireturn, 1) := by decide +kernel
theorem dX2_why_46 : decode cX2_why 46 = .ok (.aload_n 0, 1) := by decide +kernel
theorem dX2_why_47 : decode cX2_why 47 = .ok (.getfield 54, 3) := by decide +kernel
theorem dX2_why_50 : decode cX2_why 50 = .ok (.aload_n 0, 1) := by decide +kernel
theorem dX2_why_51 : decode cX2_why 51 = .ok (.getfield 19, 3) := by decide +kernel
theorem dX2_why_54 : decode cX2_why 54 = .ok (.getfield 101, 3) := by decide +kernel
theorem dX2_why_57 : decode cX2_why 57 = .ok (.iload 4, 2) := by decide +kernel
theorem dX2_why_59 : decode cX2_why 59 = .ok (.iand, 1) := by decide +kernel
theorem dX2_why_60 : decode cX2_why 60 = .ok (.ior, 1) := by decide +kernel
theorem dX2_why_61 : decode cX2_why 61 = .ok (.istore 5, 2) := by decide +kernel
theorem dX2_why_63 : decode cX2_why 63 = .ok (.iload 5, 2) := by decide +kernel
theorem dX2_why_65 : decode cX2_why 65 = .ok (.iload_n 2, 1) := by decide +kernel
theorem dX2_why_66 : decode cX2_why 66 = .ok (.invokestatic 73, 3) := by decide +kernel
theorem dX2_why_69 : decode cX2_why 69 = .ok (.iconst 1, 1) := by decide +kernel
theorem dX2_why_70 : decode cX2_why 70 = .ok (.if_icmp .ne 14, 3) := by decide +kernel
theorem dX2_why_73 : decode cX2_why 73 = .ok (.iload_n 3, 1) := by decide +kernel
theorem dX2_why_74 : decode cX2_why 74 = .ok (.ifCond .ne 7, 3) := by decide +kernel
theorem dX2_why_77 : decode cX2_why 77 = .ok (.iconst 0, 1) := by decide +kernel
theorem dX2_why_78 : decode cX2_why 78 = .ok (.goto 5, 3) := by decide +kernel
theorem dX2_why_81 : decode cX2_why 81 = .ok (.bipush (-9), 2) := by decide +kernel
theorem dX2_why_83 : decode cX2_why 83 = .ok (.ireturn, 1) := by decide +kernel
theorem dX2_why_84 : decode cX2_why 84 = .ok (.iconst 1, 1) := by decide +kernel
theorem dX2_why_85 : decode cX2_why 85 = .ok (.istore 6, 2) := by decide +kernel
theorem dX2_why_87 : decode cX2_why 87 = .ok (.iload 6, 2) := by decide +kernel
theorem dX2_why_89 : decode cX2_why 89 = .ok (.bipush 8, 2) := by decide +kernel
theorem dX2_why_91 : decode cX2_why 91 = .ok (.if_icmp .gt 63, 3) := by decide +kernel
theorem dX2_why_94 : decode cX2_why 94 = .ok (.aload_n 0, 1) := by decide +kernel
theorem dX2_why_95 : decode cX2_why 95 = .ok (.getfield 19, 3) := by decide +kernel
theorem dX2_why_98 : decode cX2_why 98 = .ok (.iload_n 2, 1) := by decide +kernel
theorem dX2_why_99 : decode cX2_why 99 = .ok (.iload 5, 2) := by decide +kernel
theorem dX2_why_101 : decode cX2_why 101 = .ok (.aload_n 0, 1) := by decide +kernel
theorem dX2_why_102 : decode cX2_why 102 = .ok (.getfield 51, 3) := by decide +kernel
theorem dX2_why_105 : decode cX2_why 105 = .ok (.iload 4, 2) := by decide +kernel
theorem dX2_why_107 : decode cX2_why 107 = .ok (.invokevirtual 104, 3) := by decide +kernel
theorem dX2_why_110 : decode cX2_why 110 = .ok (.istore 7, 2) := by decide +kernel
theorem dX2_why_112 : decode cX2_why 112 = .ok (.iload 7, 2) := by decide +kernel
theorem dX2_why_114 : decode cX2_why 114 = .ok (.bipush (-9), 2) := by decide +kernel
theorem dX2_why_116 : decode cX2_why 116 = .ok (.if_icmp .eq 15, 3) := by decide +kernel
theorem dX2_why_119 : decode cX2_why 119 = .ok (.iload_n 3, 1) := by decide +kernel
theorem dX2_why_120 : decode cX2_why 120 = .ok (.ifCond .ne 8, 3) := by decide +kernel
theorem dX2_why_123 : decode cX2_why 123 = .ok (.iload 6, 2) := by decide +kernel
theorem dX2_why_125 : decode cX2_why 125 = .ok (.goto 5, 3) := by decide +kernel
theorem dX2_why_128 : decode cX2_why 128 = .ok (.iload 7, 2) := by decide +kernel
theorem dX2_why_130 : decode cX2_why 130 = .ok (.ireturn, 1) := by decide +kernel
theorem dX2_why_131 : decode cX2_why 131 = .ok (.aload_n 0, 1) := by decide +kernel
theorem dX2_why_132 : decode cX2_why 132 = .ok (.getfield 19, 3) := by decide +kernel
theorem dX2_why_135 : decode cX2_why 135 = .ok (.iload 5, 2) := by decide +kernel
theorem dX2_why_137 : decode cX2_why 137 = .ok (.aload_n 0, 1) := by decide +kernel
theorem dX2_why_138 : decode cX2_why 138 = .ok (.getfield 51, 3) := by decide +kernel
theorem dX2_why_141 : decode cX2_why 141 = .ok (.iload 4, 2) := by decide +kernel
theorem dX2_why_143 : decode cX2_why 143 = .ok (.invokevirtual 108, 3) := by decide +kernel
theorem dX2_why_146 : decode cX2_why 146 = .ok (.istore 5, 2) := by decide +kernel
theorem dX2_why_148 : decode cX2_why 148 = .ok (.iinc 6 1, 3) := by decide +kernel
theorem dX2_why_151 : decode cX2_why 151 = .ok (.goto (-64), 3) := by decide +kernel
theorem dX2_why_154 : decode cX2_why 154 = .ok (.bipush (-9), 2) := by decide +kernel
theorem dX2_why_156 : decode cX2_why 156 = .ok (.ireturn, 1) := by decide +kernel
set_option maxRecDepth 20000 in
theorem ggX2_hangs_X2_isBit : GoodIn wsX2_hangs wsX2_isBit := goodIn_r _ [6] (by decide +kernel) (by decide +kernel)
set_option maxRecDepth 20000 in
theorem gX2_hangs_X2_isBit : GoodIn wsX2_hangs (va_wsS RX2 77 yX2_isBit wsX2_isBit) := goodIn_app (goodIn_of _ (by decide +kernel)) ggX2_hangs_X2_isBit
set_option maxRecDepth 20000 in
theorem ggX2_hangs_X0_hangsByIf : GoodIn wsX2_hangs wsX0_hangsByIf := goodIn_r _ [10, 11, 12, 13, 8, 14, 15, 16, 17, 18, 19, 20, 21, 22, 5, 23, 41, 42, 43, 44, 45] (by decide +kernel) (by decide +kernel)
set_option maxRecDepth 20000 in
theorem gX2_hangs_X0_hangsByIf_n111 : GoodIn wsX2_hangs (wsX0_hangsByIf) := ggX2_hangs_X0_hangsByIf
set_option maxRecDepth 20000 in
theorem ggX2_hangs_X0_isTangled : GoodIn wsX2_hangs wsX0_isTangled := goodIn_r _ [26, 11, 12, 13, 8, 14, 15, 16, 17, 18, 19, 20, 21, 22, 5, 23, 27, 28, 29, 30, 31, 41, 42, 43, 44, 45] (by decide +kernel) (by decide +kernel)
set_option maxRecDepth 20000 in
theorem gX2_hangs_X0_isTangled_n115 : GoodIn wsX2_hangs (wsX0_isTangled) := ggX2_hangs_X0_isTangled
theorem dX2_hangs_0 : decode cX2_hangs 0 = .ok (.iload_n 1, 1) := by decide +kernel
theorem dX2_hangs_1 : decode cX2_hangs 1 = .ok (.invokestatic 77, 3) := by decide +kernel
theorem dX2_hangs_4 : decode cX2_hangs 4 = .ok (.ifCond .ne 5, 3) := by decide +kernel
theorem dX2_hangs_7 : decode cX2_hangs 7 = .ok (.iconst (-1), 1) := by decide +kernel
theorem dX2_hangs_8 : decode cX2_hangs 8 = .ok (.ireturn, 1) := by decide +kernel
theorem dX2_hangs_9 : decode cX2_hangs 9 = .ok (.iconst 0, 1) := by decide +kernel
theorem dX2_hangs_10 : decode cX2_hangs 10 = .ok (.istore_n 2, 1) := by decide +kernel
theorem dX2_hangs_11 : decode cX2_hangs 11 = .ok (.iconst 0, 1) := by decide +kernel
theorem dX2_hangs_12 : decode cX2_hangs 12 = .ok (.istore_n 3, 1) := by decide +kernel
theorem dX2_hangs_13 : decode cX2_hangs 13 = .ok (.iload_n 3, 1) := by decide +kernel
theorem dX2_hangs_14 : decode cX2_hangs 14 = .ok (.bipush 8, 2) := by decide +kernel
theorem dX2_hangs_16 : decode cX2_hangs 16 = .ok (.if_icmp .ge 53, 3) := by decide +kernel
theorem dX2_hangs_19 : decode cX2_hangs 19 = .ok (.iload_n 1, 1) := by decide +kernel
theorem dX2_hangs_20 : decode cX2_hangs 20 = .ok (.ifCond .ne 18, 3) := by decide +kernel
theorem dX2_hangs_23 : decode cX2_hangs 23 = .ok (.aload_n 0, 1) := by decide +kernel
theorem dX2_hangs_24 : decode cX2_hangs 24 = .ok (.getfield 19, 3) := by decide +kernel
theorem dX2_hangs_27 : decode cX2_hangs 27 = .ok (.iload_n 3, 1) := by decide +kernel
theorem dX2_hangs_28 : decode cX2_hangs 28 = .ok (.aload_n 0, 1) := by decide +kernel
theorem dX2_hangs_29 : decode cX2_hangs 29 = .ok (.getfield 51, 3) := by decide +kernel
theorem dX2_hangs_32 : decode cX2_hangs 32 = .ok (.invokevirtual 111, 3) := by decide +kernel
theorem dX2_hangs_35 : decode cX2_hangs 35 = .ok (.goto 15, 3) := by decide +kernel
theorem dX2_hangs_38 : decode cX2_hangs 38 = .ok (.aload_n 0, 1) := by decide +kernel
theorem dX2_hangs_39 : decode cX2_hangs 39 = .ok (.getfield 19, 3) := by decide +kernel
theorem dX2_hangs_42 : decode cX2_hangs 42 = .ok (.iload_n 3, 1) := by decide +kernel
theorem dX2_hangs_43 : decode cX2_hangs 43 = .ok (.aload_n 0, 1) := by decide +kernel
theorem dX2_hangs_44 : decode cX2_hangs 44 = .ok (.getfield 51, 3) := by decide +kernel
theorem dX2_hangs_47 : decode cX2_hangs 47 = .ok (.invokevirtual 115, 3) := by decide +kernel
theorem dX2_hangs_50 : decode cX2_hangs 50 = .ok (.istore 4, 2) := by decide +kernel
theorem dX2_hangs_52 : decode cX2_hangs 52 = .ok (.iload 4, 2) := by decide +kernel
theorem dX2_hangs_54 : decode cX2_hangs 54 = .ok (.ifCond .eq 9, 3) := by decide +kernel
theorem dX2_hangs_57 : decode cX2_hangs 57 = .ok (.iload_n 2, 1) := by decide +kernel
theorem dX2_hangs_58 : decode cX2_hangs 58 = .ok (.iconst 1, 1) := by decide +kernel
theorem dX2_hangs_59 : decode cX2_hangs 59 = .ok (.iload_n 3, 1) := by decide +kernel
theorem dX2_hangs_60 : decode cX2_hangs 60 = .ok (.ishl, 1) := by decide +kernel
theorem dX2_hangs_61 : decode cX2_hangs 61 = .ok (.ior, 1) := by decide +kernel
theorem dX2_hangs_62 : decode cX2_hangs 62 = .ok (.istore_n 2, 1) := by decide +kernel
theorem dX2_hangs_63 : decode cX2_hangs 63 = .ok (.iinc 3 1, 3) := by decide +kernel
theorem dX2_hangs_66 : decode cX2_hangs 66 = .ok (.goto (-53), 3) := by decide +kernel
theorem dX2_hangs_69 : decode cX2_hangs 69 = .ok (.iload_n 2, 1) := by decide +kernel
theorem dX2_hangs_70 : decode cX2_hangs 70 = .ok (.ireturn, 1) := by decide +kernel
set_option maxRecDepth 20000 in
theorem ggX2_explains_X2_isSentence : GoodIn wsX2_explains wsX2_isSentence := goodIn_r _ [5] (by decide +kernel) (by decide +kernel)
set_option maxRecDepth 20000 in
theorem gX2_explains_X2_isSentence : GoodIn wsX2_explains (va_wsS RX2 84 yX2_isSentence wsX2_isSentence) := goodIn_app (goodIn_of _ (by decide +kernel)) ggX2_explains_X2_isSentence
set_option maxRecDepth 20000 in
theorem ggX2_explains_X2_isSet : GoodIn wsX2_explains wsX2_isSet := goodIn_r _ [8] (by decide +kernel) (by decide +kernel)
