theorem dX3_rules_108 : decode cX3_rules 108 = .ok (.getfield 7, 3) := by decide +kernel
theorem dX3_rules_111 : decode cX3_rules 111 = .ok (.iload 4, 2) := by decide +kernel
theorem dX3_rules_113 : decode cX3_rules 113 = .ok (.aload_n 0, 1) := by decide +kernel
theorem dX3_rules_114 : decode cX3_rules 114 = .ok (.getfield 32, 3) := by decide +kernel
theorem dX3_rules_117 : decode cX3_rules 117 = .ok (.iload 4, 2) := by decide +kernel
theorem dX3_rules_119 : decode cX3_rules 119 = .ok (.iaload, 1) := by decide +kernel
theorem dX3_rules_120 : decode cX3_rules 120 = .ok (.iastore, 1) := by decide +kernel
theorem dX3_rules_121 : decode cX3_rules 121 = .ok (.aload_n 0, 1) := by decide +kernel
theorem dX3_rules_122 : decode cX3_rules 122 = .ok (.getfield 13, 3) := by decide +kernel
theorem dX3_rules_125 : decode cX3_rules 125 = .ok (.iload 4, 2) := by decide +kernel
theorem dX3_rules_127 : decode cX3_rules 127 = .ok (.aload_n 0, 1) := by decide +kernel
theorem dX3_rules_128 : decode cX3_rules 128 = .ok (.getfield 35, 3) := by decide +kernel
theorem dX3_rules_131 : decode cX3_rules 131 = .ok (.iload 4, 2) := by decide +kernel
theorem dX3_rules_133 : decode cX3_rules 133 = .ok (.iaload, 1) := by decide +kernel
theorem dX3_rules_134 : decode cX3_rules 134 = .ok (.iastore, 1) := by decide +kernel
theorem dX3_rules_135 : decode cX3_rules 135 = .ok (.aload_n 0, 1) := by decide +kernel
theorem dX3_rules_136 : decode cX3_rules 136 = .ok (.getfield 16, 3) := by decide +kernel
theorem dX3_rules_139 : decode cX3_rules 139 = .ok (.iload 4, 2) := by decide +kernel
theorem dX3_rules_141 : decode cX3_rules 141 = .ok (.aload_n 0, 1) := by decide +kernel
theorem dX3_rules_142 : decode cX3_rules 142 = .ok (.getfield 38, 3) := by decide +kernel
theorem dX3_rules_145 : decode cX3_rules 145 = .ok (.iload 4, 2) := by decide +kernel
theorem dX3_rules_147 : decode cX3_rules 147 = .ok (.iaload, 1) := by decide +kernel
theorem dX3_rules_148 : decode cX3_rules 148 = .ok (.iastore, 1) := by decide +kernel
theorem dX3_rules_149 : decode cX3_rules 149 = .ok (.iinc 4 1, 3) := by decide +kernel
theorem dX3_rules_152 : decode cX3_rules 152 = .ok (.goto (-54), 3) := by decide +kernel
theorem dX3_rules_155 : decode cX3_rules 155 = .ok (.aload_n 0, 1) := by decide +kernel
theorem dX3_rules_156 : decode cX3_rules 156 = .ok (.iconst 1, 1) := by decide +kernel
theorem dX3_rules_157 : decode cX3_rules 157 = .ok (.aload_n 0, 1) := by decide +kernel
theorem dX3_rules_158 : decode cX3_rules 158 = .ok (.getfield 59, 3) := by decide +kernel
theorem dX3_rules_161 : decode cX3_rules 161 = .ok (.ishl, 1) := by decide +kernel
theorem dX3_rules_162 : decode cX3_rules 162 = .ok (.iconst 1, 1) := by decide +kernel
theorem dX3_rules_163 : decode cX3_rules 163 = .ok (.isub, 1) := by decide +kernel
theorem dX3_rules_164 : decode cX3_rules 164 = .ok (.putfield 114, 3) := by decide +kernel
theorem dX3_rules_167 : decode cX3_rules 167 = .ok (.aload_n 0, 1) := by decide +kernel
theorem dX3_rules_168 : decode cX3_rules 168 = .ok (.aload_n 0, 1) := by decide +kernel
theorem dX3_rules_169 : decode cX3_rules 169 = .ok (.getfield 99, 3) := by decide +kernel
theorem dX3_rules_172 : decode cX3_rules 172 = .ok (.putfield 117, 3) := by decide +kernel
theorem dX3_rules_175 : decode cX3_rules 175 = .ok (.aload_n 0, 1) := by decide +kernel
theorem dX3_rules_176 : decode cX3_rules 176 = .ok (.iconst 0, 1) := by decide +kernel
theorem dX3_rules_177 : decode cX3_rules 177 = .ok (.putfield 120, 3) := by decide +kernel
theorem dX3_rules_180 : decode cX3_rules 180 = .ok (.aload_n 0, 1) := by decide +kernel
theorem dX3_rules_181 : decode cX3_rules 181 = .ok (.getfield 22, 3) := by decide +kernel
theorem dX3_rules_184 : decode cX3_rules 184 = .ok (.iconst 0, 1) := by decide +kernel
theorem dX3_rules_185 : decode cX3_rules 185 = .ok (.iconst 0, 1) := by decide +kernel
theorem dX3_rules_186 : decode cX3_rules 186 = .ok (.bastore, 1) := by decide +kernel
theorem dX3_rules_187 : decode cX3_rules 187 = .ok (.aload_n 0, 1) := by decide +kernel
theorem dX3_rules_188 : decode cX3_rules 188 = .ok (.getfield 22, 3) := by decide +kernel
theorem dX3_rules_191 : decode cX3_rules 191 = .ok (.iconst 1, 1) := by decide +kernel
theorem dX3_rules_192 : decode cX3_rules 192 = .ok (.iconst 0, 1) := by decide +kernel
theorem dX3_rules_193 : decode cX3_rules 193 = .ok (.bastore, 1) := by decide +kernel
theorem dX3_rules_194 : decode cX3_rules 194 = .ok (.aload_n 0, 1) := by decide +kernel
theorem dX3_rules_195 : decode cX3_rules 195 = .ok (.iconst 0, 1) := by decide +kernel
theorem dX3_rules_196 : decode cX3_rules 196 = .ok (.putfield 69, 3) := by decide +kernel
theorem dX3_rules_199 : decode cX3_rules 199 = .ok (.iload_n 1, 1) := by decide +kernel
theorem dX3_rules_200 : decode cX3_rules 200 = .ok (.ireturn, 1) := by decide +kernel
set_option maxRecDepth 20000 in
theorem ggX3_rule_X3_isRule : GoodIn wsX3_rule wsX3_isRule := goodIn_r _ [10, 11, 12, 13, 9, 14, 15, 16, 17, 18, 19, 20, 21, 22, 23, 24, 25, 26, 27, 28, 29, 30, 31, 32, 33, 34, 35, 36, 37, 38, 39, 40] (by decide +kernel) (by decide +kernel)
set_option maxRecDepth 20000 in
theorem gX3_rule_X3_isRule : GoodIn wsX3_rule (wsV RX3 123 RX3 yX3_isRule wsX3_isRule) := goodIn_app (goodIn_of _ (by decide +kernel)) ggX3_rule_X3_isRule
set_option maxRecDepth 20000 in
theorem ggX3_rule_X3_in : GoodIn wsX3_rule wsX3_in := goodIn_r _ [14] (by decide +kernel) (by decide +kernel)
set_option maxRecDepth 20000 in
theorem gX3_rule_X3_in : GoodIn wsX3_rule (va_wsS RX3 63 yX3_in wsX3_in) := goodIn_app (goodIn_of _ (by decide +kernel)) ggX3_rule_X3_in
theorem dX3_rule_0 : decode cX3_rule 0 = .ok (.aload_n 0, 1) := by decide +kernel
theorem dX3_rule_1 : decode cX3_rule 1 = .ok (.iload_n 1, 1) := by decide +kernel
theorem dX3_rule_2 : decode cX3_rule 2 = .ok (.invokevirtual 123, 3) := by decide +kernel
theorem dX3_rule_5 : decode cX3_rule 5 = .ok (.ifCond .eq 15, 3) := by decide +kernel
theorem dX3_rule_8 : decode cX3_rule 8 = .ok (.iload_n 2, 1) := by decide +kernel
theorem dX3_rule_9 : decode cX3_rule 9 = .ok (.i2l, 1) := by decide +kernel
theorem dX3_rule_10 : decode cX3_rule 10 = .ok (.lconst 0, 1) := by decide +kernel
theorem dX3_rule_11 : decode cX3_rule 11 = .ok (.ldc2_w 126, 3) := by decide +kernel
theorem dX3_rule_14 : decode cX3_rule 14 = .ok (.invokestatic 63, 3) := by decide +kernel
theorem dX3_rule_17 : decode cX3_rule 17 = .ok (.ifCond .ne 5, 3) := by decide +kernel
theorem dX3_rule_20 : decode cX3_rule 20 = .ok (.iconst (-1), 1) := by decide +kernel
theorem dX3_rule_21 : decode cX3_rule 21 = .ok (.ireturn, 1) := by decide +kernel
theorem dX3_rule_22 : decode cX3_rule 22 = .ok (.iload_n 2, 1) := by decide +kernel
theorem dX3_rule_23 : decode cX3_rule 23 = .ok (.ifCond .ne 12, 3) := by decide +kernel
theorem dX3_rule_26 : decode cX3_rule 26 = .ok (.aload_n 0, 1) := by decide +kernel
theorem dX3_rule_27 : decode cX3_rule 27 = .ok (.getfield 7, 3) := by decide +kernel
theorem dX3_rule_30 : decode cX3_rule 30 = .ok (.iload_n 1, 1) := by decide +kernel
theorem dX3_rule_31 : decode cX3_rule 31 = .ok (.iaload, 1) := by decide +kernel
theorem dX3_rule_32 : decode cX3_rule 32 = .ok (.goto 39, 3) := by decide +kernel
theorem dX3_rule_35 : decode cX3_rule 35 = .ok (.iload_n 2, 1) := by decide +kernel
theorem dX3_rule_36 : decode cX3_rule 36 = .ok (.iconst 1, 1) := by decide +kernel
theorem dX3_rule_37 : decode cX3_rule 37 = .ok (.if_icmp .ne 12, 3) := by decide +kernel
theorem dX3_rule_40 : decode cX3_rule 40 = .ok (.aload_n 0, 1) := by decide +kernel
theorem dX3_rule_41 : decode cX3_rule 41 = .ok (.getfield 13, 3) := by decide +kernel
theorem dX3_rule_44 : decode cX3_rule 44 = .ok (.iload_n 1, 1) := by decide +kernel
theorem dX3_rule_45 : decode cX3_rule 45 = .ok (.iaload, 1) := by decide +kernel
theorem dX3_rule_46 : decode cX3_rule 46 = .ok (.goto 25, 3) := by decide +kernel
theorem dX3_rule_49 : decode cX3_rule 49 = .ok (.iload_n 2, 1) := by decide +kernel
theorem dX3_rule_50 : decode cX3_rule 50 = .ok (.iconst 2, 1) := by decide +kernel
theorem dX3_rule_51 : decode cX3_rule 51 = .ok (.if_icmp .ne 12, 3) := by decide +kernel
theorem dX3_rule_54 : decode cX3_rule 54 = .ok (.aload_n 0, 1) := by decide +kernel
theorem dX3_rule_55 : decode cX3_rule 55 = .ok (.getfield 16, 3) := by decide +kernel
theorem dX3_rule_58 : decode cX3_rule 58 = .ok (.iload_n 1, 1) := by decide +kernel
theorem dX3_rule_59 : decode cX3_rule 59 = .ok (.iaload, 1) := by decide +kernel
theorem dX3_rule_60 : decode cX3_rule 60 = .ok (.goto 11, 3) := by decide +kernel
theorem dX3_rule_63 : decode cX3_rule 63 = .ok (.aload_n 0, 1) := by decide +kernel
theorem dX3_rule_64 : decode cX3_rule 64 = .ok (.getfield 114, 3) := by decide +kernel
theorem dX3_rule_67 : decode cX3_rule 67 = .ok (.iload_n 1, 1) := by decide +kernel
theorem dX3_rule_68 : decode cX3_rule 68 = .ok (.ishr, 1) := by decide +kernel
theorem dX3_rule_69 : decode cX3_rule 69 = .ok (.iconst 1, 1) := by decide +kernel
theorem dX3_rule_70 : decode cX3_rule 70 = .ok (.iand, 1) := by decide +kernel
theorem dX3_rule_71 : decode cX3_rule 71 = .ok (.ireturn, 1) := by decide +kernel
set_option maxRecDepth 20000 in
theorem ggX3_turn_X3_isRule : GoodIn wsX3_turn wsX3_isRule := goodIn_r _ [6, 7, 8, 9, 5, 10, 11, 12, 13, 14, 15, 16, 17, 18, 19, 20, 21, 22, 23, 24, 25, 26, 27, 28, 29, 30, 31, 32, 33, 34, 35, 36] (by decide +kernel) (by decide +kernel)
set_option maxRecDepth 20000 in
theorem gX3_turn_X3_isRule : GoodIn wsX3_turn (wsV RX3 123 RX3 yX3_isRule wsX3_isRule) := goodIn_app (goodIn_of _ (by decide +kernel)) ggX3_turn_X3_isRule
set_option maxRecDepth 20000 in
theorem ggX3_turn_X3_in : GoodIn wsX3_turn wsX3_in := goodIn_r _ [10] (by decide +kernel) (by decide +kernel)
set_option maxRecDepth 20000 in
theorem gX3_turn_X3_in : GoodIn wsX3_turn (va_wsS RX3 63 yX3_in wsX3_in) := goodIn_app (goodIn_of _ (by decide +kernel)) ggX3_turn_X3_in
theorem dX3_turn_0 : decode cX3_turn 0 = .ok (.aload_n 0, 1) := by decide +kernel
theorem dX3_turn_1 : decode cX3_turn 1 = .ok (.iload_n 1, 1) := by decide +kernel
theorem dX3_turn_2 : decode cX3_turn 2 = .ok (.invokevirtual 123, 3) := by decide +kernel
theorem dX3_turn_5 : decode cX3_turn 5 = .ok (.ifCond .eq 13, 3) := by decide +kernel
theorem dX3_turn_8 : decode cX3_turn 8 = .ok (.iload_n 2, 1) := by decide +kernel
theorem dX3_turn_9 : decode cX3_turn 9 = .ok (.i2l, 1) := by decide +kernel
theorem dX3_turn_10 : decode cX3_turn 10 = .ok (.lconst 0, 1) := by decide +kernel
theorem dX3_turn_11 : decode cX3_turn 11 = .ok (.lconst 1, 1) := by decide +kernel
theorem dX3_turn_12 : decode cX3_turn 12 = .ok (.invokestatic 63, 3) := by decide +kernel
theorem dX3_turn_15 : decode cX3_turn 15 = .ok (.ifCond .ne 5, 3) := by decide +kernel
theorem dX3_turn_18 : decode cX3_turn 18 = .ok (.iconst (-1), 1) := by decide +kernel
theorem dX3_turn_19 : decode cX3_turn 19 = .ok (.ireturn, 1) := by decide +kernel
theorem dX3_turn_20 : decode cX3_turn 20 = .ok (.aload_n 0, 1) := by decide +kernel
theorem dX3_turn_21 : decode cX3_turn 21 = .ok (.getfield 114, 3) := by decide +kernel
theorem dX3_turn_24 : decode cX3_turn 24 = .ok (.iload_n 1, 1) := by decide +kernel
theorem dX3_turn_25 : decode cX3_turn 25 = .ok (.ishr, 1) := by decide +kernel
theorem dX3_turn_26 : decode cX3_turn 26 = .ok (.iconst 1, 1) := by decide +kernel
theorem dX3_turn_27 : decode cX3_turn 27 = .ok (.iand, 1) := by decide +kernel
theorem dX3_turn_28 : decode cX3_turn 28 = .ok (.istore_n 3, 1) := by decide +kernel
theorem dX3_turn_29 : decode cX3_turn 29 = .ok (.aload_n 0, 1) := by decide +kernel
theorem dX3_turn_30 : decode cX3_turn 30 = .ok (.iload_n 2, 1) := by decide +kernel
theorem dX3_turn_31 : decode cX3_turn 31 = .ok (.iconst 1, 1) := by decide +kernel
theorem dX3_turn_32 : decode cX3_turn 32 = .ok (.if_icmp .ne 14, 3) := by decide +kernel
theorem dX3_turn_35 : decode cX3_turn 35 = .ok (.aload_n 0, 1) := by decide +kernel
theorem dX3_turn_36 : decode cX3_turn 36 = .ok (.getfield 114, 3) := by decide +kernel
theorem dX3_turn_39 : decode cX3_turn 39 = .ok (.iconst 1, 1) := by decide +kernel
theorem dX3_turn_40 : decode cX3_turn 40 = .ok (.iload_n 1, 1) := by decide +kernel
theorem dX3_turn_41 : decode cX3_turn 41 = .ok (.ishl, 1) := by decide +kernel
theorem dX3_turn_42 : decode cX3_turn 42 = .ok (.ior, 1) := by decide +kernel
theorem dX3_turn_43 : decode cX3_turn 43 = .ok (.goto 13, 3) := by decide +kernel
theorem dX3_turn_46 : decode cX3_turn 46 = .ok (.aload_n 0, 1) := by decide +kernel
theorem dX3_turn_47 : decode cX3_turn 47 = .ok (.getfield 114, 3) := by decide +kernel
theorem dX3_turn_50 : decode cX3_turn 50 = .ok (.iconst 1, 1) := by decide +kernel
theorem dX3_turn_51 : decode cX3_turn 51 = .ok (.iload_n 1, 1) := by decide +kernel
theorem dX3_turn_52 : decode cX3_turn 52 = .ok (.ishl, 1) := by decide +kernel
theorem dX3_turn_53 : decode cX3_turn 53 = .ok (.iconst (-1), 1) := by decide +kernel
theorem dX3_turn_54 : decode cX3_turn 54 = .ok (.ixor, 1) := by decide +kernel
theorem dX3_turn_55 : decode cX3_turn 55 = .ok (.iand, 1) := by decide +kernel
theorem dX3_turn_56 : decode cX3_turn 56 = .ok (.putfield 114, 3) := by decide +kernel
theorem dX3_turn_59 : decode cX3_turn 59 = .ok (.iload_n 3, 1) := by decide +kernel
theorem dX3_turn_60 : decode cX3_turn 60 = .ok (.ireturn, 1) := by decide +kernel
set_option maxRecDepth 20000 in
theorem ggX3_assume_X3_in : GoodIn wsX3_assume wsX3_in := goodIn_r _ [6] (by decide +kernel) (by decide +kernel)
set_option maxRecDepth 20000 in
theorem gX3_assume_X3_in : GoodIn wsX3_assume (va_wsS RX3 63 yX3_in wsX3_in) := goodIn_app (goodIn_of _ (by decide +kernel)) ggX3_assume_X3_in
theorem dX3_assume_0 : decode cX3_assume 0 = .ok (.iload_n 1, 1) := by decide +kernel
theorem dX3_assume_1 : decode cX3_assume 1 = .ok (.i2l, 1) := by decide +kernel
theorem dX3_assume_2 : decode cX3_assume 2 = .ok (.lconst 0, 1) := by decide +kernel
theorem dX3_assume_3 : decode cX3_assume 3 = .ok (.ldc2_w 128, 3) := by decide +kernel
theorem dX3_assume_6 : decode cX3_assume 6 = .ok (.invokestatic 63, 3) := by decide +kernel
theorem dX3_assume_9 : decode cX3_assume 9 = .ok (.ifCond .eq 13, 3) := by decide +kernel
theorem dX3_assume_12 : decode cX3_assume 12 = .ok (.iload_n 2, 1) := by decide +kernel
theorem dX3_assume_13 : decode cX3_assume 13 = .ok (.i2l, 1) := by decide +kernel
theorem dX3_assume_14 : decode cX3_assume 14 = .ok (.lconst 0, 1) := by decide +kernel
theorem dX3_assume_15 : decode cX3_assume 15 = .ok (.lconst 1, 1) := by decide +kernel
theorem dX3_assume_16 : decode cX3_assume 16 = .ok (.invokestatic 63, 3) := by decide +kernel
theorem dX3_assume_19 : decode cX3_assume 19 = .ok (.ifCond .ne 5, 3) := by decide +kernel
theorem dX3_assume_22 : decode cX3_assume 22 = .ok (.iconst (-1), 1) := by decide +kernel
theorem dX3_assume_23 : decode cX3_assume 23 = .ok (.ireturn, 1) := by decide +kernel
theorem dX3_assume_24 : decode cX3_assume 24 = .ok (.aload_n 0, 1) := by decide +kernel
theorem dX3_assume_25 : decode cX3_assume 25 = .ok (.getfield 120, 3) := by decide +kernel
theorem dX3_assume_28 : decode cX3_assume 28 = .ok (.iload_n 1, 1) := by decide +kernel
theorem dX3_assume_29 : decode cX3_assume 29 = .ok (.ishr, 1) := by decide +kernel
theorem dX3_assume_30 : decode cX3_assume 30 = .ok (.iconst 1, 1) := by decide +kernel
theorem dX3_assume_31 : decode cX3_assume 31 = .ok (.iand, 1) := by decide +kernel
theorem dX3_assume_32 : decode cX3_assume 32 = .ok (.istore_n 3, 1) := by decide +kernel
theorem dX3_assume_33 : decode cX3_assume 33 = .ok (.aload_n 0, 1) := by decide +kernel
theorem dX3_assume_34 : decode cX3_assume 34 = .ok (.iload_n 2, 1) := by decide +kernel
theorem dX3_assume_35 : decode cX3_assume 35 = .ok (.iconst 1, 1) := by decide +kernel
theorem dX3_assume_36 : decode cX3_assume 36 = .ok (.if_icmp .ne 14, 3) := by decide +kernel
theorem dX3_assume_39 : decode cX3_assume 39 = .ok (.aload_n 0, 1) := by decide +kernel
theorem dX3_assume_40 : decode cX3_assume 40 = .ok (.getfield 120, 3) := by decide +kernel
theorem dX3_assume_43 : decode cX3_assume 43 = .ok (.iconst 1, 1) := by decide +kernel
theorem dX3_assume_44 : decode cX3_assume 44 = .ok (.iload_n 1, 1) := by decide +kernel
theorem dX3_assume_45 : decode cX3_assume 45 = .ok (.ishl, 1) := by decide +kernel
theorem dX3_assume_46 : decode cX3_assume 46 = .ok (.ior, 1) := by decide +kernel
theorem dX3_assume_47 : decode cX3_assume 47 = .ok (.goto 13, 3) := by decide +kernel
theorem dX3_assume_50 : decode cX3_assume 50 = .ok (.aload_n 0, 1) := by decide +kernel
theorem dX3_assume_51 : decode cX3_assume 51 = .ok (.getfield 120, 3) := by decide +kernel
theorem dX3_assume_54 : decode cX3_assume 54 = .ok (.iconst 1, 1) := by decide +kernel
theorem dX3_assume_55 : decode cX3_assume 55 = .ok (.iload_n 1, 1) := by decide +kernel
theorem dX3_assume_56 : decode cX3_assume 56 = .ok (.ishl, 1) := by decide +kernel
theorem dX3_assume_57 : decode cX3_assume 57 = .ok (.iconst (-1), 1) := by decide +kernel
theorem dX3_assume_58 : decode cX3_assume 58 = .ok (.ixor, 1) := by decide +kernel
theorem dX3_assume_59 : decode cX3_assume 59 = .ok (.iand, 1) := by decide +kernel
theorem dX3_assume_60 : decode cX3_assume 60 = .ok (.putfield 120, 3) := by decide +kernel
theorem dX3_assume_63 : decode cX3_assume 63 = .ok (.iload_n 3, 1) := by decide +kernel
theorem dX3_assume_64 : decode cX3_assume 64 = .ok (.ireturn, 1) := by decide +kernel
set_option maxRecDepth 20000 in
theorem ggX3_grows_X3_has : GoodIn wsX3_grows wsX3_has := goodIn_r _ [10] (by decide +kernel) (by decide +kernel)
set_option maxRecDepth 20000 in
theorem gX3_grows_X3_has : GoodIn wsX3_grows (va_wsS RX3 130 yX3_has wsX3_has) := goodIn_app (goodIn_of _ (by decide +kernel)) ggX3_grows_X3_has
theorem dX3_grows_0 : decode cX3_grows 0 = .ok (.iconst 0, 1) := by decide +kernel
theorem dX3_grows_1 : decode cX3_grows 1 = .ok (.istore 4, 2) := by decide +kernel
theorem dX3_grows_3 : decode cX3_grows 3 = .ok (.iload 4, 2) := by decide +kernel
theorem dX3_grows_5 : decode cX3_grows 5 = .ok (.bipush 8, 2) := by decide +kernel
theorem dX3_grows_7 : decode cX3_grows 7 = .ok (.if_icmp .ge 39, 3) := by decide +kernel
theorem dX3_grows_10 : decode cX3_grows 10 = .ok (.aload_n 0, 1) := by decide +kernel
theorem dX3_grows_11 : decode cX3_grows 11 = .ok (.getfield 41, 3) := by decide +kernel
theorem dX3_grows_14 : decode cX3_grows 14 = .ok (.iload 4, 2) := by decide +kernel
theorem dX3_grows_16 : decode cX3_grows 16 = .ok (.iload_n 1, 1) := by decide +kernel
theorem dX3_grows_17 : decode cX3_grows 17 = .ok (.iload 4, 2) := by decide +kernel
theorem dX3_grows_19 : decode cX3_grows 19 = .ok (.invokestatic 130, 3) := by decide +kernel
theorem dX3_grows_22 : decode cX3_grows 22 = .ok (.ifCond .eq 7, 3) := by decide +kernel
theorem dX3_grows_25 : decode cX3_grows 25 = .ok (.iconst 0, 1) := by decide +kernel
theorem dX3_grows_26 : decode cX3_grows 26 = .ok (.goto 4, 3) := by decide +kernel
theorem dX3_grows_29 : decode cX3_grows 29 = .ok (.iconst (-1), 1) := by decide +kernel
theorem dX3_grows_30 : decode cX3_grows 30 = .ok (.iastore, 1) := by decide +kernel
theorem dX3_grows_31 : decode cX3_grows 31 = .ok (.aload_n 0, 1) := by decide +kernel
theorem dX3_grows_32 : decode cX3_grows 32 = .ok (.getfield 44, 3) := by decide +kernel
theorem dX3_grows_35 : decode cX3_grows 35 = .ok (.iload 4, 2) := by decide +kernel
theorem dX3_grows_37 : decode cX3_grows 37 = .ok (.bipush (-9), 2) := by decide +kernel
theorem dX3_grows_39 : decode cX3_grows 39 = .ok (.iastore, 1) := by decide +kernel
theorem dX3_grows_40 : decode cX3_grows 40 = .ok (.iinc 4 1, 3) := by decide +kernel
theorem dX3_grows_43 : decode cX3_grows 43 = .ok (.goto (-40), 3) := by decide +kernel
theorem dX3_grows_46 : decode cX3_grows 46 = .ok (.iload_n 1, 1) := by decide +kernel
theorem dX3_grows_47 : decode cX3_grows 47 = .ok (.istore 4, 2) := by decide +kernel
theorem dX3_grows_49 : decode cX3_grows 49 = .ok (.iconst 1, 1) := by decide +kernel
theorem dX3_grows_50 : decode cX3_grows 50 = .ok (.istore 5, 2) := by decide +kernel
theorem dX3_grows_52 : decode cX3_grows 52 = .ok (.iload 5, 2) := by decide +kernel
theorem dX3_grows_54 : decode cX3_grows 54 = .ok (.bipush 8, 2) := by decide +kernel
theorem dX3_grows_56 : decode cX3_grows 56 = .ok (.if_icmp .gt 152, 3) := by decide +kernel
theorem dX3_grows_59 : decode cX3_grows 59 = .ok (.iload 4, 2) := by decide +kernel
theorem dX3_grows_61 : decode cX3_grows 61 = .ok (.istore 6, 2) := by decide +kernel
theorem dX3_grows_63 : decode cX3_grows 63 = .ok (.iconst 0, 1) := by decide +kernel
theorem dX3_grows_64 : decode cX3_grows 64 = .ok (.istore 7, 2) := by decide +kernel
theorem dX3_grows_66 : decode cX3_grows 66 = .ok (.iload 7, 2) := by decide +kernel
theorem dX3_grows_68 : decode cX3_grows 68 = .ok (.aload_n 0, 1) := by decide +kernel
theorem dX3_grows_69 : decode cX3_grows 69 = .ok (.getfield 59, 3) := by decide +kernel
theorem dX3_grows_72 : decode cX3_grows 72 = .ok (.if_icmp .ge 126, 3) := by decide +kernel
theorem dX3_grows_75 : decode cX3_grows 75 = .ok (.iload_n 2, 1) := by decide +kernel
theorem dX3_grows_76 : decode cX3_grows 76 = .ok (.iload 7, 2) := by decide +kernel
theorem dX3_grows_78 : decode cX3_grows 78 = .ok (.invokestatic 130, 3) := by decide +kernel
theorem dX3_grows_81 : decode cX3_grows 81 = .ok (.ifCond .eq 46, 3) := by decide +kernel
theorem dX3_grows_84 : decode cX3_grows 84 = .ok (.aload_n 0, 1) := by decide +kernel
theorem dX3_grows_85 : decode cX3_grows 85 = .ok (.getfield 7, 3) := by decide +kernel
theorem dX3_grows_88 : decode cX3_grows 88 = .ok (.iload 7, 2) := by decide +kernel
theorem dX3_grows_90 : decode cX3_grows 90 = .ok (.iaload, 1) := by decide +kernel
theorem dX3_grows_91 : decode cX3_grows 91 = .ok (.bipush 8, 2) := by decide +kernel
theorem dX3_grows_93 : decode cX3_grows 93 = .ok (.if_icmp .eq 34, 3) := by decide +kernel
theorem dX3_grows_96 : decode cX3_grows 96 = .ok (.aload_n 0, 1) := by decide +kernel
theorem dX3_grows_97 : decode cX3_grows 97 = .ok (.getfield 16, 3) := by decide +kernel
theorem dX3_grows_100 : decode cX3_grows 100 = .ok (.iload 7, 2) := by decide +kernel
theorem dX3_grows_102 : decode cX3_grows 102 = .ok (.iaload, 1) := by decide +kernel
theorem dX3_grows_103 : decode cX3_grows 103 = .ok (.iload_n 3, 1) := by decide +kernel
theorem dX3_grows_104 : decode cX3_grows 104 = .ok (.iand, 1) := by decide +kernel
theorem dX3_grows_105 : decode cX3_grows 105 = .ok (.ifCond .ne 22, 3) := by decide +kernel
theorem dX3_grows_108 : decode cX3_grows 108 = .ok (.aload_n 0, 1) := by decide +kernel
theorem dX3_grows_109 : decode cX3_grows 109 = .ok (.getfield 13, 3) := by decide +kernel
theorem dX3_grows_112 : decode cX3_grows 112 = .ok (.iload 7, 2) := by decide +kernel
theorem dX3_grows_114 : decode cX3_grows 114 = .ok (.iaload, 1) := by decide +kernel
theorem dX3_grows_115 : decode cX3_grows 115 = .ok (.iload 4, 2) := by decide +kernel
theorem dX3_grows_117 : decode cX3_grows 117 = .ok (.iconst (-1), 1) := by decide +kernel
theorem dX3_grows_118 : decode cX3_grows 118 = .ok (.ixor, 1) := by decide +kernel
theorem dX3_grows_119 : decode cX3_grows 119 = .ok (.iand, 1) := by decide +kernel
theorem dX3_grows_120 : decode cX3_grows 120 = .ok (.ifCond .ne 7, 3) := by decide +kernel
theorem dX3_grows_123 : decode cX3_grows 123 = .ok (.iconst 1, 1) := by decide +kernel
theorem dX3_grows_124 : decode cX3_grows 124 = .ok (.goto 4, 3) := by decide +kernel
theorem dX3_grows_127 : decode cX3_grows 127 = .ok (.iconst 0, 1) := by decide +kernel
theorem dX3_grows_128 : decode cX3_grows 128 = .ok (.istore 8, 2) := by decide +kernel
theorem dX3_grows_130 : decode cX3_grows 130 = .ok (.iload 8, 2) := by decide +kernel
theorem dX3_grows_132 : decode cX3_grows 132 = .ok (.ifCond .eq 60, 3) := by decide +kernel
theorem dX3_grows_135 : decode cX3_grows 135 = .ok (.iload 6, 2) := by decide +kernel
theorem dX3_grows_137 : decode cX3_grows 137 = .ok (.aload_n 0, 1) := by decide +kernel
theorem dX3_grows_138 : decode cX3_grows 138 = .ok (.getfield 7, 3) := by decide +kernel
theorem dX3_grows_141 : decode cX3_grows 141 = .ok (.iload 7, 2) := by decide +kernel
theorem dX3_grows_143 : decode cX3_grows 143 = .ok (.iaload, 1) := by decide +kernel
theorem dX3_grows_144 : decode cX3_grows 144 = .ok (.invokestatic 130, 3) := by decide +kernel
theorem dX3_grows_147 : decode cX3_grows 147 = .ok (.ifCond .ne 45, 3) := by decide +kernel
theorem dX3_grows_150 : decode cX3_grows 150 = .ok (.iload 6, 2) := by decide +kernel
theorem dX3_grows_152 : decode cX3_grows 152 = .ok (.iconst 1, 1) := by decide +kernel
theorem dX3_grows_153 : decode cX3_grows 153 = .ok (.aload_n 0, 1) := by decide +kernel
theorem dX3_grows_154 : decode cX3_grows 154 = .ok (.getfield 7, 3) := by decide +kernel
theorem dX3_grows_157 : decode cX3_grows 157 = .ok (.iload 7, 2) := by decide +kernel
theorem dX3_grows_159 : decode cX3_grows 159 = .ok (.iaload, 1) := by decide +kernel
theorem dX3_grows_160 : decode cX3_grows 160 = .ok (.ishl, 1) := by decide +kernel
theorem dX3_grows_161 : decode cX3_grows 161 = .ok (.ior, 1) := by decide +kernel
theorem dX3_grows_162 : decode cX3_grows 162 = .ok (.istore 6, 2) := by decide +kernel
theorem dX3_grows_164 : decode cX3_grows 164 = .ok (.aload_n 0, 1) := by decide +kernel
theorem dX3_grows_165 : decode cX3_grows 165 = .ok (.getfield 41, 3) := by decide +kernel
theorem dX3_grows_168 : decode cX3_grows 168 = .ok (.aload_n 0, 1) := by decide +kernel
theorem dX3_grows_169 : decode cX3_grows 169 = .ok (.getfield 7, 3) := by decide +kernel
theorem dX3_grows_172 : decode cX3_grows 172 = .ok (.iload 7, 2) := by decide +kernel
theorem dX3_grows_174 : decode cX3_grows 174 = .ok (.iaload, 1) := by decide +kernel
theorem dX3_grows_175 : decode cX3_grows 175 = .ok (.iload 5, 2) := by decide +kernel
theorem dX3_grows_177 : decode cX3_grows 177 = .ok (.iastore, 1) := by decide +kernel
theorem dX3_grows_178 : decode cX3_grows 178 = .ok (.aload_n 0, 1) := by decide +kernel
theorem dX3_grows_179 : decode cX3_grows 179 = .ok (.getfield 44, 3) := by decide +kernel
theorem dX3_grows_182 : decode cX3_grows 182 = .ok (.aload_n 0, 1) := by decide +kernel
theorem dX3_grows_183 : decode cX3_grows 183 = .ok (.getfield 7, 3) := by decide +kernel
theorem dX3_grows_186 : decode cX3_grows 186 = .ok (.iload 7, 2) := by decide +kernel
theorem dX3_grows_188 : decode cX3_grows 188 = .ok (.iaload, 1) := by decide +kernel
theorem dX3_grows_189 : decode cX3_grows 189 = .ok (.iload 7, 2) := by decide +kernel
theorem dX3_grows_191 : decode cX3_grows 191 = .ok (.iastore, 1) := by decide +kernel
theorem dX3_grows_192 : decode cX3_grows 192 = .ok (.iinc 7 1, 3) := by decide +kernel
theorem dX3_grows_195 : decode cX3_grows 195 = .ok (.goto (-129), 3) := by decide +kernel
theorem dX3_grows_198 : decode cX3_grows 198 = .ok (.iload 6, 2) := by decide +kernel
theorem dX3_grows_200 : decode cX3_grows 200 = .ok (.istore 4, 2) := by decide +kernel
theorem dX3_grows_202 : decode cX3_grows 202 = .ok (.iinc 5 1, 3) := by decide +kernel
theorem dX3_grows_205 : decode cX3_grows 205 = .ok (.goto (-153), 3) := by decide +kernel
theorem dX3_grows_208 : decode cX3_grows 208 = .ok (.iload 4, 2) := by decide +kernel
theorem dX3_grows_210 : decode cX3_grows 210 = .ok (.ireturn, 1) := by decide +kernel
set_option maxRecDepth 20000 in
theorem ggX3_isBanned_X3_has : GoodIn wsX3_isBanned wsX3_has := goodIn_r _ [8] (by decide +kernel) (by decide +kernel)
set_option maxRecDepth 20000 in
theorem gX3_isBanned_X3_has : GoodIn wsX3_isBanned (va_wsS RX3 130 yX3_has wsX3_has) := goodIn_app (goodIn_of _ (by decide +kernel)) ggX3_isBanned_X3_has
theorem dX3_isBanned_0 : decode cX3_isBanned 0 = .ok (.iconst 0, 1) := by decide +kernel
theorem dX3_isBanned_1 : decode cX3_isBanned 1 = .ok (.istore_n 3, 1) := by decide +kernel
theorem dX3_isBanned_2 : decode cX3_isBanned 2 = .ok (.iconst 0, 1) := by decide +kernel
theorem dX3_isBanned_3 : decode cX3_isBanned 3 = .ok (.istore 4, 2) := by decide +kernel
theorem dX3_isBanned_5 : decode cX3_isBanned 5 = .ok (.iload 4, 2) := by decide +kernel
theorem dX3_isBanned_7 : decode cX3_isBanned 7 = .ok (.aload_n 0, 1) := by decide +kernel
theorem dX3_isBanned_8 : decode cX3_isBanned 8 = .ok (.getfield 59, 3) := by decide +kernel
theorem dX3_isBanned_11 : decode cX3_isBanned 11 = .ok (.if_icmp .ge 66, 3) := by decide +kernel
theorem dX3_isBanned_14 : decode cX3_isBanned 14 = .ok (.iload_n 3, 1) := by decide +kernel
theorem dX3_isBanned_15 : decode cX3_isBanned 15 = .ok (.ifCond .ne 50, 3) := by decide +kernel
theorem dX3_isBanned_18 : decode cX3_isBanned 18 = .ok (.iload_n 2, 1) := by decide +kernel
theorem dX3_isBanned_19 : decode cX3_isBanned 19 = .ok (.iload 4, 2) := by decide +kernel
theorem dX3_isBanned_21 : decode cX3_isBanned 21 = .ok (.invokestatic 130, 3) := by decide +kernel
theorem dX3_isBanned_24 : decode cX3_isBanned 24 = .ok (.ifCond .eq 45, 3) := by decide +kernel
theorem dX3_isBanned_27 : decode cX3_isBanned 27 = .ok (.aload_n 0, 1) := by decide +kernel
theorem dX3_isBanned_28 : decode cX3_isBanned 28 = .ok (.getfield 7, 3) := by decide +kernel
theorem dX3_isBanned_31 : decode cX3_isBanned 31 = .ok (.iload 4, 2) := by decide +kernel
theorem dX3_isBanned_33 : decode cX3_isBanned 33 = .ok (.iaload, 1) := by decide +kernel
theorem dX3_isBanned_34 : decode cX3_isBanned 34 = .ok (.bipush 8, 2) := by decide +kernel
theorem dX3_isBanned_36 : decode cX3_isBanned 36 = .ok (.if_icmp .ne 33, 3) := by decide +kernel
theorem dX3_isBanned_39 : decode cX3_isBanned 39 = .ok (.aload_n 0, 1) := by decide +kernel
theorem dX3_isBanned_40 : decode cX3_isBanned 40 = .ok (.getfield 13, 3) := by decide +kernel
theorem dX3_isBanned_43 : decode cX3_isBanned 43 = .ok (.iload 4, 2) := by decide +kernel
theorem dX3_isBanned_45 : decode cX3_isBanned 45 = .ok (.iaload, 1) := by decide +kernel
theorem dX3_isBanned_46 : decode cX3_isBanned 46 = .ok (.iload_n 1, 1) := by decide +kernel
theorem dX3_isBanned_47 : decode cX3_isBanned 47 = .ok (.iconst (-1), 1) := by decide +kernel
theorem dX3_isBanned_48 : decode cX3_isBanned 48 = .ok (.ixor, 1) := by decide +kernel
theorem dX3_isBanned_49 : decode cX3_isBanned 49 = .ok (.iand, 1) := by decide +kernel
theorem dX3_isBanned_50 : decode cX3_isBanned 50 = .ok (.ifCond .ne 19, 3) := by decide +kernel
theorem dX3_isBanned_53 : decode cX3_isBanned 53 = .ok (.aload_n 0, 1) := by decide +kernel
theorem dX3_isBanned_54 : decode cX3_isBanned 54 = .ok (.getfield 16, 3) := by decide +kernel
theorem dX3_isBanned_57 : decode cX3_isBanned 57 = .ok (.iload 4, 2) := by decide +kernel
theorem dX3_isBanned_59 : decode cX3_isBanned 59 = .ok (.iaload, 1) := by decide +kernel
theorem dX3_isBanned_60 : decode cX3_isBanned 60 = .ok (.iload_n 1, 1) := by decide +kernel
theorem dX3_isBanned_61 : decode cX3_isBanned 61 = .ok (.iand, 1) := by decide +kernel
theorem dX3_isBanned_62 : decode cX3_isBanned 62 = .ok (.ifCond .ne 7, 3) := by decide +kernel
theorem dX3_isBanned_65 : decode cX3_isBanned 65 = .ok (.iconst 1, 1) := by decide +kernel
theorem dX3_isBanned_66 : decode cX3_isBanned 66 = .ok (.goto 4, 3) := by decide +kernel
theorem dX3_isBanned_69 : decode cX3_isBanned 69 = .ok (.iconst 0, 1) := by decide +kernel
theorem dX3_isBanned_70 : decode cX3_isBanned 70 = .ok (.istore_n 3, 1) := by decide +kernel
theorem dX3_isBanned_71 : decode cX3_isBanned 71 = .ok (.iinc 4 1, 3) := by decide +kernel
theorem dX3_isBanned_74 : decode cX3_isBanned 74 = .ok (.goto (-69), 3) := by decide +kernel
theorem dX3_isBanned_77 : decode cX3_isBanned 77 = .ok (.iload_n 3, 1) := by decide +kernel
theorem dX3_isBanned_78 : decode cX3_isBanned 78 = .ok (.ireturn, 1) := by decide +kernel
set_option maxRecDepth 20000 in
theorem ggX3_doesStand_X3_isBanned : GoodIn wsX3_doesStand wsX3_isBanned := goodIn_r _ [6, 7, 8, 9, 10, 11, 12, 5, 13, 20, 21, 22, 23, 24, 25, 26, 27, 28, 29, 30, 31, 32, 33, 34, 35, 36, 37, 38, 39, 40, 41, 42, 43, 44, 45] (by decide +kernel) (by decide +kernel)
set_option maxRecDepth 20000 in
theorem gX3_doesStand_X3_isBanned : GoodIn wsX3_doesStand (wsV RX3 134 RX3 yX3_isBanned wsX3_isBanned) := goodIn_app (goodIn_of _ (by decide +kernel)) ggX3_doesStand_X3_isBanned
set_option maxRecDepth 20000 in
theorem ggX3_doesStand_X3_grows : GoodIn wsX3_doesStand wsX3_grows := goodIn_r _ [17, 18, 19, 7, 8, 10, 9, 11, 12, 5, 13, 20, 21, 22, 23, 24, 25, 26, 27, 28, 29, 30, 31, 32, 33, 34, 35, 36, 37, 38, 39, 40, 41, 42, 43, 44, 45] (by decide +kernel) (by decide +kernel)
set_option maxRecDepth 20000 in
theorem gX3_doesStand_X3_grows : GoodIn wsX3_doesStand (wsV RX3 137 RX3 yX3_grows wsX3_grows) := goodIn_app (goodIn_of _ (by decide +kernel)) ggX3_doesStand_X3_grows
theorem dX3_doesStand_0 : decode cX3_doesStand 0 = .ok (.iload_n 3, 1) := by decide +kernel
theorem dX3_doesStand_1 : decode cX3_doesStand 1 = .ok (.iload_n 1, 1) := by decide +kernel
theorem dX3_doesStand_2 : decode cX3_doesStand 2 = .ok (.iconst (-1), 1) := by decide +kernel
theorem dX3_doesStand_3 : decode cX3_doesStand 3 = .ok (.ixor, 1) := by decide +kernel
theorem dX3_doesStand_4 : decode cX3_doesStand 4 = .ok (.iand, 1) := by decide +kernel
theorem dX3_doesStand_5 : decode cX3_doesStand 5 = .ok (.ifCond .ne 34, 3) := by decide +kernel
theorem dX3_doesStand_8 : decode cX3_doesStand 8 = .ok (.aload_n 0, 1) := by decide +kernel
theorem dX3_doesStand_9 : decode cX3_doesStand 9 = .ok (.iload_n 1, 1) := by decide +kernel
theorem dX3_doesStand_10 : decode cX3_doesStand 10 = .ok (.iload_n 2, 1) := by decide +kernel
theorem dX3_doesStand_11 : decode cX3_doesStand 11 = .ok (.invokevirtual 134, 3) := by decide +kernel
theorem dX3_doesStand_14 : decode cX3_doesStand 14 = .ok (.ifCond .ne 25, 3) := by decide +kernel
theorem dX3_doesStand_17 : decode cX3_doesStand 17 = .ok (.aload_n 0, 1) := by decide +kernel
theorem dX3_doesStand_18 : decode cX3_doesStand 18 = .ok (.iload_n 3, 1) := by decide +kernel
theorem dX3_doesStand_19 : decode cX3_doesStand 19 = .ok (.aload_n 0, 1) := by decide +kernel
theorem dX3_doesStand_20 : decode cX3_doesStand 20 = .ok (.getfield 117, 3) := by decide +kernel
theorem dX3_doesStand_23 : decode cX3_doesStand 23 = .ok (.iload_n 1, 1) := by decide +kernel
theorem dX3_doesStand_24 : decode cX3_doesStand 24 = .ok (.iand, 1) := by decide +kernel
theorem dX3_doesStand_25 : decode cX3_doesStand 25 = .ok (.ior, 1) := by decide +kernel
theorem dX3_doesStand_26 : decode cX3_doesStand 26 = .ok (.iload_n 2, 1) := by decide +kernel
theorem dX3_doesStand_27 : decode cX3_doesStand 27 = .ok (.iload_n 1, 1) := by decide +kernel
theorem dX3_doesStand_28 : decode cX3_doesStand 28 = .ok (.invokevirtual 137, 3) := by decide +kernel
theorem dX3_doesStand_31 : decode cX3_doesStand 31 = .ok (.iload_n 1, 1) := by decide +kernel
theorem dX3_doesStand_32 : decode cX3_doesStand 32 = .ok (.if_icmp .ne 7, 3) := by decide +kernel
theorem dX3_doesStand_35 : decode cX3_doesStand 35 = .ok (.iconst 1, 1) := by decide +kernel
theorem dX3_doesStand_36 : decode cX3_doesStand 36 = .ok (.goto 4, 3) := by decide +kernel
theorem dX3_doesStand_39 : decode cX3_doesStand 39 = .ok (.iconst 0, 1) := by decide +kernel
theorem dX3_doesStand_40 : decode cX3_doesStand 40 = .ok (.ireturn, 1) := by decide +kernel
set_option maxRecDepth 20000 in
theorem ggX3_findAll_X3_doesStand : GoodIn wsX3_findAll wsX3_doesStand := goodIn_r _ [5, 6, 7, 8, 9, 4, 10, 11, 12, 13, 14, 15, 16, 17, 18, 19, 20, 21, 22, 23, 24, 25, 26, 27, 28, 29, 30, 31, 32, 33, 34, 35, 36, 37, 38, 39, 40, 41, 42, 43, 44, 45, 46, 47, 48, 49] (by decide +kernel) (by decide +kernel)
set_option maxRecDepth 20000 in
theorem gX3_findAll_X3_doesStand : GoodIn wsX3_findAll (wsV RX3 141 RX3 yX3_doesStand wsX3_doesStand) := goodIn_app (goodIn_of _ (by decide +kernel)) ggX3_findAll_X3_doesStand
theorem dX3_findAll_0 : decode cX3_findAll 0 = .ok (.iconst 0, 1) := by decide +kernel
theorem dX3_findAll_1 : decode cX3_findAll 1 = .ok (.istore 4, 2) := by decide +kernel
theorem dX3_findAll_3 : decode cX3_findAll 3 = .ok (.iconst 0, 1) := by decide +kernel
theorem dX3_findAll_4 : decode cX3_findAll 4 = .ok (.istore 5, 2) := by decide +kernel
theorem dX3_findAll_6 : decode cX3_findAll 6 = .ok (.iload 5, 2) := by decide +kernel
theorem dX3_findAll_8 : decode cX3_findAll 8 = .ok (.bipush 8, 2) := by decide +kernel
theorem dX3_findAll_10 : decode cX3_findAll 10 = .ok (.if_icmp .ge 14, 3) := by decide +kernel
theorem dX3_findAll_13 : decode cX3_findAll 13 = .ok (.aload_n 1, 1) := by decide +kernel
theorem dX3_findAll_14 : decode cX3_findAll 14 = .ok (.iload 5, 2) := by decide +kernel
theorem dX3_findAll_16 : decode cX3_findAll 16 = .ok (.iconst 0, 1) := by decide +kernel
theorem dX3_findAll_17 : decode cX3_findAll 17 = .ok (.iastore, 1) := by decide +kernel
theorem dX3_findAll_18 : decode cX3_findAll 18 = .ok (.iinc 5 1, 3) := by decide +kernel
theorem dX3_findAll_21 : decode cX3_findAll 21 = .ok (.goto (-15), 3) := by decide +kernel
theorem dX3_findAll_24 : decode cX3_findAll 24 = .ok (.iconst 0, 1) := by decide +kernel
theorem dX3_findAll_25 : decode cX3_findAll 25 = .ok (.istore 5, 2) := by decide +kernel
theorem dX3_findAll_27 : decode cX3_findAll 27 = .ok (.iload 5, 2) := by decide +kernel
theorem dX3_findAll_29 : decode cX3_findAll 29 = .ok (.sipush 255, 3) := by decide +kernel
theorem dX3_findAll_32 : decode cX3_findAll 32 = .ok (.if_icmp .gt 40, 3) := by decide +kernel
theorem dX3_findAll_35 : decode cX3_findAll 35 = .ok (.aload_n 0, 1) := by decide +kernel
theorem dX3_findAll_36 : decode cX3_findAll 36 = .ok (.iload 5, 2) := by decide +kernel
theorem dX3_findAll_38 : decode cX3_findAll 38 = .ok (.iload_n 2, 1) := by decide +kernel
theorem dX3_findAll_39 : decode cX3_findAll 39 = .ok (.iload_n 3, 1) := by decide +kernel
theorem dX3_findAll_40 : decode cX3_findAll 40 = .ok (.invokevirtual 141, 3) := by decide +kernel
theorem dX3_findAll_43 : decode cX3_findAll 43 = .ok (.ifCond .eq 23, 3) := by decide +kernel
theorem dX3_findAll_46 : decode cX3_findAll 46 = .ok (.aload_n 1, 1) := by decide +kernel
theorem dX3_findAll_47 : decode cX3_findAll 47 = .ok (.iload 5, 2) := by decide +kernel
theorem dX3_findAll_49 : decode cX3_findAll 49 = .ok (.bipush 32, 2) := by decide +kernel
theorem dX3_findAll_51 : decode cX3_findAll 51 = .ok (.idiv, 1) := by decide +kernel
theorem dX3_findAll_52 : decode cX3_findAll 52 = .ok (.dup2, 1) := by decide +kernel
theorem dX3_findAll_53 : decode cX3_findAll 53 = .ok (.iaload, 1) := by decide +kernel
theorem dX3_findAll_54 : decode cX3_findAll 54 = .ok (.iconst 1, 1) := by decide +kernel
theorem dX3_findAll_55 : decode cX3_findAll 55 = .ok (.iload 5, 2) := by decide +kernel
theorem dX3_findAll_57 : decode cX3_findAll 57 = .ok (.bipush 32, 2) := by decide +kernel
theorem dX3_findAll_59 : decode cX3_findAll 59 = .ok (.irem, 1) := by decide +kernel
theorem dX3_findAll_60 : decode cX3_findAll 60 = .ok (.ishl, 1) := by decide +kernel
theorem dX3_findAll_61 : decode cX3_findAll 61 = .ok (.ior, 1) := by decide +kernel
theorem dX3_findAll_62 : decode cX3_findAll 62 = .ok (.iastore, 1) := by decide +kernel
theorem dX3_findAll_63 : decode cX3_findAll 63 = .ok (.iinc 4 1, 3) := by decide +kernel
theorem dX3_findAll_66 : decode cX3_findAll 66 = .ok (.iinc 5 1, 3) := by decide +kernel
theorem dX3_findAll_69 : decode cX3_findAll 69 = .ok (.goto (-42), 3) := by decide +kernel
theorem dX3_findAll_72 : decode cX3_findAll 72 = .ok (.iload 4, 2) := by decide +kernel
theorem dX3_findAll_74 : decode cX3_findAll 74 = .ok (.ireturn, 1) := by decide +kernel
set_option maxRecDepth 20000 in
theorem ggX3_ofAll_X3_has : GoodIn wsX3_ofAll wsX3_has := goodIn_r _ [5] (by decide +kernel) (by decide +kernel)
set_option maxRecDepth 20000 in
theorem gX3_ofAll_X3_has : GoodIn wsX3_ofAll (va_wsS RX3 130 yX3_has wsX3_has) := goodIn_app (goodIn_of _ (by decide +kernel)) ggX3_ofAll_X3_has
theorem dX3_ofAll_0 : decode cX3_ofAll 0 = .ok (.iload_n 1, 1) := by decide +kernel
theorem dX3_ofAll_1 : decode cX3_ofAll 1 = .ok (.istore_n 2, 1) := by decide +kernel
theorem dX3_ofAll_2 : decode cX3_ofAll 2 = .ok (.iconst 0, 1) := by decide +kernel
theorem dX3_ofAll_3 : decode cX3_ofAll 3 = .ok (.istore_n 3, 1) := by decide +kernel
theorem dX3_ofAll_4 : decode cX3_ofAll 4 = .ok (.iload_n 3, 1) := by decide +kernel
theorem dX3_ofAll_5 : decode cX3_ofAll 5 = .ok (.sipush 255, 3) := by decide +kernel
theorem dX3_ofAll_8 : decode cX3_ofAll 8 = .ok (.if_icmp .gt 37, 3) := by decide +kernel
theorem dX3_ofAll_11 : decode cX3_ofAll 11 = .ok (.aload_n 0, 1) := by decide +kernel
theorem dX3_ofAll_12 : decode cX3_ofAll 12 = .ok (.getfield 47, 3) := by decide +kernel
theorem dX3_ofAll_15 : decode cX3_ofAll 15 = .ok (.iload_n 3, 1) := by decide +kernel
theorem dX3_ofAll_16 : decode cX3_ofAll 16 = .ok (.bipush 32, 2) := by decide +kernel
theorem dX3_ofAll_18 : decode cX3_ofAll 18 = .ok (.idiv, 1) := by decide +kernel
theorem dX3_ofAll_19 : decode cX3_ofAll 19 = .ok (.iaload, 1) := by decide +kernel
theorem dX3_ofAll_20 : decode cX3_ofAll 20 = .ok (.iload_n 3, 1) := by decide +kernel
theorem dX3_ofAll_21 : decode cX3_ofAll 21 = .ok (.bipush 32, 2) := by decide +kernel
theorem dX3_ofAll_23 : decode cX3_ofAll 23 = .ok (.irem, 1) := by decide +kernel
theorem dX3_ofAll_24 : decode cX3_ofAll 24 = .ok (.invokestatic 130, 3) := by decide +kernel
theorem dX3_ofAll_27 : decode cX3_ofAll 27 = .ok (.ifCond .eq 12, 3) := by decide +kernel
theorem dX3_ofAll_30 : decode cX3_ofAll 30 = .ok (.iload_n 2, 1) := by decide +kernel
theorem dX3_ofAll_31 : decode cX3_ofAll 31 = .ok (.ifCond .ne 5, 3) := by decide +kernel
theorem dX3_ofAll_34 : decode cX3_ofAll 34 = .ok (.iload_n 3, 1) := by decide +kernel
theorem dX3_ofAll_35 : decode cX3_ofAll 35 = .ok (.ireturn, 1) := by decide +kernel
theorem dX3_ofAll_36 : decode cX3_ofAll 36 = .ok (.iinc 2 (-1), 3) := by decide +kernel
theorem dX3_ofAll_39 : decode cX3_ofAll 39 = .ok (.iinc 3 1, 3) := by decide +kernel
theorem dX3_ofAll_42 : decode cX3_ofAll 42 = .ok (.goto (-38), 3) := by decide +kernel
theorem dX3_ofAll_45 : decode cX3_ofAll 45 = .ok (.bipush (-9), 2) := by decide +kernel
theorem dX3_ofAll_47 : decode cX3_ofAll 47 = .ok (.ireturn, 1) := by decide +kernel
set_option maxRecDepth 20000 in
theorem ggX3_sets_X3_findAll : GoodIn wsX3_sets wsX3_findAll := goodIn_r _ [8, 9, 10, 11, 7, 12, 13, 14, 15, 16, 17, 18, 19, 20, 21, 22, 23, 24, 25, 26, 27, 28, 29, 30, 31, 32, 33, 34, 35, 36, 37, 38, 39, 40, 41, 42, 43, 44, 45, 46, 47, 48, 49, 50, 51, 52, 53, 54, 55, 56] (by decide +kernel) (by decide +kernel)
set_option maxRecDepth 20000 in
theorem gX3_sets_X3_findAll : GoodIn wsX3_sets (wsV RX3 145 RX3 yX3_findAll wsX3_findAll) := goodIn_app (goodIn_of _ (by decide +kernel)) ggX3_sets_X3_findAll
theorem dX3_sets_0 : decode cX3_sets 0 = .ok (.aload_n 0, 1) := by decide +kernel
theorem dX3_sets_1 : decode cX3_sets 1 = .ok (.aload_n 0, 1) := by decide +kernel
theorem dX3_sets_2 : decode cX3_sets 2 = .ok (.getfield 47, 3) := by decide +kernel
theorem dX3_sets_5 : decode cX3_sets 5 = .ok (.aload_n 0, 1) := by decide +kernel
theorem dX3_sets_6 : decode cX3_sets 6 = .ok (.getfield 114, 3) := by decide +kernel
theorem dX3_sets_9 : decode cX3_sets 9 = .ok (.aload_n 0, 1) := by decide +kernel
theorem dX3_sets_10 : decode cX3_sets 10 = .ok (.getfield 120, 3) := by decide +kernel
theorem dX3_sets_13 : decode cX3_sets 13 = .ok (.invokevirtual 145, 3) := by decide +kernel
theorem dX3_sets_16 : decode cX3_sets 16 = .ok (.ireturn, 1) := by decide +kernel
set_option maxRecDepth 20000 in
theorem ggX3_set_X3_findAll : GoodIn wsX3_set wsX3_findAll := goodIn_r _ [8, 9, 10, 11, 7, 12, 13, 14, 15, 16, 17, 18, 19, 20, 21, 22, 23, 24, 25, 26, 27, 28, 29, 30, 35, 36, 37, 38, 39, 40, 41, 42, 43, 44, 45, 46, 47, 48, 49, 50, 51, 52, 53, 54, 55, 56, 57, 58, 59, 60] (by decide +kernel) (by decide +kernel)
set_option maxRecDepth 20000 in
theorem gX3_set_X3_findAll : GoodIn wsX3_set (wsV RX3 145 RX3 yX3_findAll wsX3_findAll) := goodIn_app (goodIn_of _ (by decide +kernel)) ggX3_set_X3_findAll
set_option maxRecDepth 20000 in
theorem ggX3_set_X3_ofAll : GoodIn wsX3_set wsX3_ofAll := goodIn_r _ [34, 1, 22, 23, 7, 24, 35, 36, 37, 38, 39, 40, 41, 42, 43, 44, 45, 46, 47, 48, 49, 50, 51, 52, 53, 54, 55, 56, 57, 58, 59, 60] (by decide +kernel) (by decide +kernel)
set_option maxRecDepth 20000 in
theorem gX3_set_X3_ofAll : GoodIn wsX3_set (wsV RX3 149 RX3 yX3_ofAll wsX3_ofAll) := goodIn_app (goodIn_of _ (by decide +kernel)) ggX3_set_X3_ofAll
theorem dX3_set_0 : decode cX3_set 0 = .ok (.iload_n 1, 1) := by decide +kernel
theorem dX3_set_1 : decode cX3_set 1 = .ok (.ifCond .ge 5, 3) := by decide +kernel
theorem dX3_set_4 : decode cX3_set 4 = .ok (.iconst (-1), 1) := by decide +kernel
theorem dX3_set_5 : decode cX3_set 5 = .ok (.ireturn, 1) := by decide +kernel
theorem dX3_set_6 : decode cX3_set 6 = .ok (.aload_n 0, 1) := by decide +kernel
theorem dX3_set_7 : decode cX3_set 7 = .ok (.aload_n 0, 1) := by decide +kernel
theorem dX3_set_8 : decode cX3_set 8 = .ok (.getfield 47, 3) := by decide +kernel
theorem dX3_set_11 : decode cX3_set 11 = .ok (.aload_n 0, 1) := by decide +kernel
theorem dX3_set_12 : decode cX3_set 12 = .ok (.getfield 114, 3) := by decide +kernel
theorem dX3_set_15 : decode cX3_set 15 = .ok (.aload_n 0, 1) := by decide +kernel
theorem dX3_set_16 : decode cX3_set 16 = .ok (.getfield 120, 3) := by decide +kernel
theorem dX3_set_19 : decode cX3_set 19 = .ok (.invokevirtual 145, 3) := by decide +kernel
theorem dX3_set_22 : decode cX3_set 22 = .ok (.pop, 1) := by decide +kernel
theorem dX3_set_23 : decode cX3_set 23 = .ok (.aload_n 0, 1) := by decide +kernel
theorem dX3_set_24 : decode cX3_set 24 = .ok (.iload_n 1, 1) := by decide +kernel
theorem dX3_set_25 : decode cX3_set 25 = .ok (.invokevirtual 149, 3) := by decide +kernel
theorem dX3_set_28 : decode cX3_set 28 = .ok (.ireturn, 1) := by decide +kernel
set_option maxRecDepth 20000 in
theorem ggX3_stands_X3_in : GoodIn wsX3_stands wsX3_in := goodIn_r _ [7] (by decide +kernel) (by decide +kernel)
set_option maxRecDepth 20000 in
theorem gX3_stands_X3_in : GoodIn wsX3_stands (va_wsS RX3 63 yX3_in wsX3_in) := goodIn_app (goodIn_of _ (by decide +kernel)) ggX3_stands_X3_in
set_option maxRecDepth 20000 in
theorem ggX3_stands_X3_doesStand : GoodIn wsX3_stands wsX3_doesStand := goodIn_r _ [11, 12, 13, 14, 15, 6, 16, 17, 18, 19, 20, 21, 22, 23, 24, 25, 26, 27, 28, 29, 30, 31, 32, 33, 34, 35, 36, 37, 38, 39, 40, 41, 42, 43, 44, 45, 46, 47, 48, 49, 50, 51, 52, 53, 54, 55] (by decide +kernel) (by decide +kernel)
set_option maxRecDepth 20000 in
theorem gX3_stands_X3_doesStand : GoodIn wsX3_stands (wsV RX3 141 RX3 yX3_doesStand wsX3_doesStand) := goodIn_app (goodIn_of _ (by decide +kernel)) ggX3_stands_X3_doesStand
theorem dX3_stands_0 : decode cX3_stands 0 = .ok (.iload_n 1, 1) := by decide +kernel
theorem dX3_stands_1 : decode cX3_stands 1 = .ok (.i2l, 1) := by decide +kernel
theorem dX3_stands_2 : decode cX3_stands 2 = .ok (.lconst 0, 1) := by decide +kernel
theorem dX3_stands_3 : decode cX3_stands 3 = .ok (.ldc2_w 72, 3) := by decide +kernel
theorem dX3_stands_6 : decode cX3_stands 6 = .ok (.invokestatic 63, 3) := by decide +kernel
theorem dX3_stands_9 : decode cX3_stands 9 = .ok (.ifCond .ne 5, 3) := by decide +kernel
theorem dX3_stands_12 : decode cX3_stands 12 = .ok (.iconst (-1), 1) := by decide +kernel
theorem dX3_stands_13 : decode cX3_stands 13 = .ok (.ireturn, 1) := by decide +kernel
theorem dX3_stands_14 : decode cX3_stands 14 = .ok (.aload_n 0, 1) := by decide +kernel
theorem dX3_stands_15 : decode cX3_stands 15 = .ok (.iload_n 1, 1) := by decide +kernel
theorem dX3_stands_16 : decode cX3_stands 16 = .ok (.aload_n 0, 1) := by decide +kernel
theorem dX3_stands_17 : decode cX3_stands 17 = .ok (.getfield 114, 3) := by decide +kernel
theorem dX3_stands_20 : decode cX3_stands 20 = .ok (.aload_n 0, 1) := by decide +kernel
theorem dX3_stands_21 : decode cX3_stands 21 = .ok (.getfield 120, 3) := by decide +kernel
theorem dX3_stands_24 : decode cX3_stands 24 = .ok (.invokevirtual 141, 3) := by decide +kernel
theorem dX3_stands_27 : decode cX3_stands 27 = .ok (.ifCond .eq 7, 3) := by decide +kernel
theorem dX3_stands_30 : decode cX3_stands 30 = .ok (.iconst 1, 1) := by decide +kernel
theorem dX3_stands_31 : decode cX3_stands 31 = .ok (.goto 4, 3) := by decide +kernel
theorem dX3_stands_34 : decode cX3_stands 34 = .ok (.iconst 0, 1) := by decide +kernel
theorem dX3_stands_35 : decode cX3_stands 35 = .ok (.ireturn, 1) := by decide +kernel
set_option maxRecDepth 20000 in
theorem ggX3_holds_X3_in : GoodIn wsX3_holds wsX3_in := goodIn_r _ [6] (by decide +kernel) (by decide +kernel)
set_option maxRecDepth 20000 in
theorem gX3_holds_X3_in : GoodIn wsX3_holds (va_wsS RX3 63 yX3_in wsX3_in) := goodIn_app (goodIn_of _ (by decide +kernel)) ggX3_holds_X3_in
set_option maxRecDepth 20000 in
theorem ggX3_holds_X3_doesStand : GoodIn wsX3_holds wsX3_doesStand := goodIn_r _ [10, 11, 12, 13, 14, 5, 15, 16, 17, 18, 19, 20, 21, 22, 23, 24, 25, 26, 27, 28, 29, 30, 31, 32, 33, 34, 35, 36, 37, 38, 39, 40, 41, 42, 43, 44, 45, 46, 47, 48, 49, 50, 51, 52, 53, 54] (by decide +kernel) (by decide +kernel)
set_option maxRecDepth 20000 in
theorem gX3_holds_X3_doesStand : GoodIn wsX3_holds (wsV RX3 141 RX3 yX3_doesStand wsX3_doesStand) := goodIn_app (goodIn_of _ (by decide +kernel)) ggX3_holds_X3_doesStand
theorem dX3_holds_0 : decode cX3_holds 0 = .ok (.iload_n 1, 1) := by decide +kernel
theorem dX3_holds_1 : decode cX3_holds 1 = .ok (.i2l, 1) := by decide +kernel
theorem dX3_holds_2 : decode cX3_holds 2 = .ok (.lconst 0, 1) := by decide +kernel
theorem dX3_holds_3 : decode cX3_holds 3 = .ok (.lconst 1, 1) := by decide +kernel
theorem dX3_holds_4 : decode cX3_holds 4 = .ok (.invokestatic 63, 3) := by decide +kernel
theorem dX3_holds_7 : decode cX3_holds 7 = .ok (.ifCond .ne 5, 3) := by decide +kernel
theorem dX3_holds_10 : decode cX3_holds 10 = .ok (.iconst (-1), 1) := by decide +kernel
theorem dX3_holds_11 : decode cX3_holds 11 = .ok (.ireturn, 1) := by decide +kernel
theorem dX3_holds_12 : decode cX3_holds 12 = .ok (.iconst 0, 1) := by decide +kernel
theorem dX3_holds_13 : decode cX3_holds 13 = .ok (.istore_n 2, 1) := by decide +kernel
theorem dX3_holds_14 : decode cX3_holds 14 = .ok (.sipush 255, 3) := by decide +kernel
theorem dX3_holds_17 : decode cX3_holds 17 = .ok (.istore_n 3, 1) := by decide +kernel
theorem dX3_holds_18 : decode cX3_holds 18 = .ok (.iconst 0, 1) := by decide +kernel
theorem dX3_holds_19 : decode cX3_holds 19 = .ok (.istore 4, 2) := by decide +kernel
theorem dX3_holds_21 : decode cX3_holds 21 = .ok (.iload 4, 2) := by decide +kernel
theorem dX3_holds_23 : decode cX3_holds 23 = .ok (.sipush 255, 3) := by decide +kernel
theorem dX3_holds_26 : decode cX3_holds 26 = .ok (.if_icmp .gt 55, 3) := by decide +kernel
theorem dX3_holds_29 : decode cX3_holds 29 = .ok (.aload_n 0, 1) := by decide +kernel
theorem dX3_holds_30 : decode cX3_holds 30 = .ok (.iload 4, 2) := by decide +kernel
theorem dX3_holds_32 : decode cX3_holds 32 = .ok (.aload_n 0, 1) := by decide +kernel
theorem dX3_holds_33 : decode cX3_holds 33 = .ok (.getfield 114, 3) := by decide +kernel
theorem dX3_holds_36 : decode cX3_holds 36 = .ok (.aload_n 0, 1) := by decide +kernel
theorem dX3_holds_37 : decode cX3_holds 37 = .ok (.getfield 120, 3) := by decide +kernel
theorem dX3_holds_40 : decode cX3_holds 40 = .ok (.invokevirtual 141, 3) := by decide +kernel
theorem dX3_holds_43 : decode cX3_holds 43 = .ok (.istore 5, 2) := by decide +kernel
theorem dX3_holds_45 : decode cX3_holds 45 = .ok (.iload_n 2, 1) := by decide +kernel
theorem dX3_holds_46 : decode cX3_holds 46 = .ok (.iload 5, 2) := by decide +kernel
theorem dX3_holds_48 : decode cX3_holds 48 = .ok (.ifCond .eq 8, 3) := by decide +kernel
theorem dX3_holds_51 : decode cX3_holds 51 = .ok (.iload 4, 2) := by decide +kernel
theorem dX3_holds_53 : decode cX3_holds 53 = .ok (.goto 4, 3) := by decide +kernel
theorem dX3_holds_56 : decode cX3_holds 56 = .ok (.iconst 0, 1) := by decide +kernel
theorem dX3_holds_57 : decode cX3_holds 57 = .ok (.ior, 1) := by decide +kernel
theorem dX3_holds_58 : decode cX3_holds 58 = .ok (.istore_n 2, 1) := by decide +kernel
theorem dX3_holds_59 : decode cX3_holds 59 = .ok (.iload_n 3, 1) := by decide +kernel
theorem dX3_holds_60 : decode cX3_holds 60 = .ok (.iload 5, 2) := by decide +kernel
theorem dX3_holds_62 : decode cX3_holds 62 = .ok (.ifCond .eq 8, 3) := by decide +kernel
theorem dX3_holds_65 : decode cX3_holds 65 = .ok (.iload 4, 2) := by decide +kernel
theorem dX3_holds_67 : decode cX3_holds 67 = .ok (.goto 6, 3) := by decide +kernel
theorem dX3_holds_70 : decode cX3_holds 70 = .ok (.sipush 255, 3) := by decide +kernel
theorem dX3_holds_73 : decode cX3_holds 73 = .ok (.iand, 1) := by decide +kernel
theorem dX3_holds_74 : decode cX3_holds 74 = .ok (.istore_n 3, 1) := by decide +kernel
theorem dX3_holds_75 : decode cX3_holds 75 = .ok (.iinc 4 1, 3) := by decide +kernel
theorem dX3_holds_78 : decode cX3_holds 78 = .ok (.goto (-57), 3) := by decide +kernel
theorem dX3_holds_81 : decode cX3_holds 81 = .ok (.iload_n 1, 1) := by decide +kernel
theorem dX3_holds_82 : decode cX3_holds 82 = .ok (.ifCond .ne 7, 3) := by decide +kernel
theorem dX3_holds_85 : decode cX3_holds 85 = .ok (.iload_n 2, 1) := by decide +kernel
theorem dX3_holds_86 : decode cX3_holds 86 = .ok (.goto 4, 3) := by decide +kernel
theorem dX3_holds_89 : decode cX3_holds 89 = .ok (.iload_n 3, 1) := by decide +kernel
theorem dX3_holds_90 : decode cX3_holds 90 = .ok (.ireturn, 1) := by decide +kernel
set_option maxRecDepth 20000 in
theorem ggX3_known_X3_in : GoodIn wsX3_known wsX3_in := goodIn_r _ [8] (by decide +kernel) (by decide +kernel)
