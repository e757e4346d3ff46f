theorem dX3_idle_8 : decode cX3_idle 8 = .ok (.iconst (-1), 1) := by decide +kernel
theorem dX3_idle_9 : decode cX3_idle 9 = .ok (.ireturn, 1) := by decide +kernel
theorem dX3_idle_10 : decode cX3_idle 10 = .ok (.aload_n 0, 1) := by decide +kernel
theorem dX3_idle_11 : decode cX3_idle 11 = .ok (.getfield 114, 3) := by decide +kernel
theorem dX3_idle_14 : decode cX3_idle 14 = .ok (.iload_n 1, 1) := by decide +kernel
theorem dX3_idle_15 : decode cX3_idle 15 = .ok (.invokestatic 130, 3) := by decide +kernel
theorem dX3_idle_18 : decode cX3_idle 18 = .ok (.ifCond .ne 6, 3) := by decide +kernel
theorem dX3_idle_21 : decode cX3_idle 21 = .ok (.bipush (-2), 2) := by decide +kernel
theorem dX3_idle_23 : decode cX3_idle 23 = .ok (.ireturn, 1) := by decide +kernel
theorem dX3_idle_24 : decode cX3_idle 24 = .ok (.aload_n 0, 1) := by decide +kernel
theorem dX3_idle_25 : decode cX3_idle 25 = .ok (.aload_n 0, 1) := by decide +kernel
theorem dX3_idle_26 : decode cX3_idle 26 = .ok (.getfield 114, 3) := by decide +kernel
theorem dX3_idle_29 : decode cX3_idle 29 = .ok (.iconst 1, 1) := by decide +kernel
theorem dX3_idle_30 : decode cX3_idle 30 = .ok (.iload_n 1, 1) := by decide +kernel
theorem dX3_idle_31 : decode cX3_idle 31 = .ok (.ishl, 1) := by decide +kernel
theorem dX3_idle_32 : decode cX3_idle 32 = .ok (.iconst (-1), 1) := by decide +kernel
theorem dX3_idle_33 : decode cX3_idle 33 = .ok (.ixor, 1) := by decide +kernel
theorem dX3_idle_34 : decode cX3_idle 34 = .ok (.iand, 1) := by decide +kernel
theorem dX3_idle_35 : decode cX3_idle 35 = .ok (.aload_n 0, 1) := by decide +kernel
theorem dX3_idle_36 : decode cX3_idle 36 = .ok (.getfield 120, 3) := by decide +kernel
theorem dX3_idle_39 : decode cX3_idle 39 = .ok (.invokevirtual 169, 3) := by decide +kernel
theorem dX3_idle_42 : decode cX3_idle 42 = .ok (.ifCond .eq 7, 3) := by decide +kernel
theorem dX3_idle_45 : decode cX3_idle 45 = .ok (.iconst 1, 1) := by decide +kernel
theorem dX3_idle_46 : decode cX3_idle 46 = .ok (.goto 4, 3) := by decide +kernel
theorem dX3_idle_49 : decode cX3_idle 49 = .ok (.iconst 0, 1) := by decide +kernel
theorem dX3_idle_50 : decode cX3_idle 50 = .ok (.ireturn, 1) := by decide +kernel
set_option maxRecDepth 20000 in
theorem ggX3_alike_X3_in : GoodIn wsX3_alike wsX3_in := goodIn_r _ [7] (by decide +kernel) (by decide +kernel)
set_option maxRecDepth 20000 in
theorem gX3_alike_X3_in : GoodIn wsX3_alike (va_wsS RX3 63 yX3_in wsX3_in) := goodIn_app (goodIn_of _ (by decide +kernel)) ggX3_alike_X3_in
set_option maxRecDepth 20000 in
theorem ggX3_alike_X3_areSame : GoodIn wsX3_alike wsX3_areSame := goodIn_r _ [11, 12, 13, 14, 15, 16, 17, 18, 6, 19, 20, 21, 22, 23, 24, 25, 26, 27, 28, 29, 30, 31, 32, 33, 34, 35, 36, 37, 38, 39, 40, 41, 42, 43, 44, 45, 46, 47, 48, 49, 50, 51, 52, 53, 54, 55, 56, 57, 58, 59, 60, 61, 62, 63, 64, 65, 66, 67] (by decide +kernel) (by decide +kernel)
set_option maxRecDepth 20000 in
theorem gX3_alike_X3_areSame : GoodIn wsX3_alike (wsV RX3 169 RX3 yX3_areSame wsX3_areSame) := goodIn_app (goodIn_of _ (by decide +kernel)) ggX3_alike_X3_areSame
theorem dX3_alike_0 : decode cX3_alike 0 = .ok (.iload_n 1, 1) := by decide +kernel
theorem dX3_alike_1 : decode cX3_alike 1 = .ok (.i2l, 1) := by decide +kernel
theorem dX3_alike_2 : decode cX3_alike 2 = .ok (.lconst 0, 1) := by decide +kernel
theorem dX3_alike_3 : decode cX3_alike 3 = .ok (.lconst 1, 1) := by decide +kernel
theorem dX3_alike_4 : decode cX3_alike 4 = .ok (.invokestatic 63, 3) := by decide +kernel
theorem dX3_alike_7 : decode cX3_alike 7 = .ok (.ifCond .ne 5, 3) := by decide +kernel
theorem dX3_alike_10 : decode cX3_alike 10 = .ok (.iconst (-1), 1) := by decide +kernel
theorem dX3_alike_11 : decode cX3_alike 11 = .ok (.ireturn, 1) := by decide +kernel
theorem dX3_alike_12 : decode cX3_alike 12 = .ok (.aload_n 0, 1) := by decide +kernel
theorem dX3_alike_13 : decode cX3_alike 13 = .ok (.getfield 22, 3) := by decide +kernel
theorem dX3_alike_16 : decode cX3_alike 16 = .ok (.iload_n 1, 1) := by decide +kernel
theorem dX3_alike_17 : decode cX3_alike 17 = .ok (.baload, 1) := by decide +kernel
theorem dX3_alike_18 : decode cX3_alike 18 = .ok (.ifCond .ne 6, 3) := by decide +kernel
theorem dX3_alike_21 : decode cX3_alike 21 = .ok (.bipush (-2), 2) := by decide +kernel
theorem dX3_alike_23 : decode cX3_alike 23 = .ok (.ireturn, 1) := by decide +kernel
theorem dX3_alike_24 : decode cX3_alike 24 = .ok (.aload_n 0, 1) := by decide +kernel
theorem dX3_alike_25 : decode cX3_alike 25 = .ok (.aload_n 0, 1) := by decide +kernel
theorem dX3_alike_26 : decode cX3_alike 26 = .ok (.getfield 26, 3) := by decide +kernel
theorem dX3_alike_29 : decode cX3_alike 29 = .ok (.iload_n 1, 1) := by decide +kernel
theorem dX3_alike_30 : decode cX3_alike 30 = .ok (.iaload, 1) := by decide +kernel
theorem dX3_alike_31 : decode cX3_alike 31 = .ok (.aload_n 0, 1) := by decide +kernel
theorem dX3_alike_32 : decode cX3_alike 32 = .ok (.getfield 29, 3) := by decide +kernel
theorem dX3_alike_35 : decode cX3_alike 35 = .ok (.iload_n 1, 1) := by decide +kernel
theorem dX3_alike_36 : decode cX3_alike 36 = .ok (.iaload, 1) := by decide +kernel
theorem dX3_alike_37 : decode cX3_alike 37 = .ok (.invokevirtual 169, 3) := by decide +kernel
theorem dX3_alike_40 : decode cX3_alike 40 = .ok (.ifCond .eq 7, 3) := by decide +kernel
theorem dX3_alike_43 : decode cX3_alike 43 = .ok (.iconst 1, 1) := by decide +kernel
theorem dX3_alike_44 : decode cX3_alike 44 = .ok (.goto 4, 3) := by decide +kernel
theorem dX3_alike_47 : decode cX3_alike 47 = .ok (.iconst 0, 1) := by decide +kernel
theorem dX3_alike_48 : decode cX3_alike 48 = .ok (.ireturn, 1) := by decide +kernel
set_option maxRecDepth 20000 in
theorem ggX3_mark_X3_in : GoodIn wsX3_mark wsX3_in := goodIn_r _ [16] (by decide +kernel) (by decide +kernel)
set_option maxRecDepth 20000 in
theorem gX3_mark_X3_in : GoodIn wsX3_mark (va_wsS RX3 63 yX3_in wsX3_in) := goodIn_app (goodIn_of _ (by decide +kernel)) ggX3_mark_X3_in
set_option maxRecDepth 20000 in
theorem ggX3_mark_X3_isRule : GoodIn wsX3_mark wsX3_isRule := goodIn_r _ [20, 21, 13, 14, 15, 16, 25, 26, 27, 28, 29, 30, 31, 32, 33, 34, 35, 36, 37, 38, 39, 40, 41, 42, 43, 44, 45, 46, 47, 48, 49, 50] (by decide +kernel) (by decide +kernel)
set_option maxRecDepth 20000 in
theorem gX3_mark_X3_isRule : GoodIn wsX3_mark (wsV RX3 123 RX3 yX3_isRule wsX3_isRule) := goodIn_app (goodIn_of _ (by decide +kernel)) ggX3_mark_X3_isRule
set_option maxRecDepth 20000 in
theorem ggX3_mark_X3_ones : GoodIn wsX3_mark wsX3_ones := goodIn_r _ [24] (by decide +kernel) (by decide +kernel)
set_option maxRecDepth 20000 in
theorem gX3_mark_X3_ones : GoodIn wsX3_mark (va_wsS RX3 160 yX3_ones wsX3_ones) := goodIn_app (goodIn_of _ (by decide +kernel)) ggX3_mark_X3_ones
theorem dX3_mark_0 : decode cX3_mark 0 = .ok (.iload_n 1, 1) := by decide +kernel
theorem dX3_mark_1 : decode cX3_mark 1 = .ok (.i2l, 1) := by decide +kernel
theorem dX3_mark_2 : decode cX3_mark 2 = .ok (.lconst 0, 1) := by decide +kernel
theorem dX3_mark_3 : decode cX3_mark 3 = .ok (.ldc2_w 172, 3) := by decide +kernel
theorem dX3_mark_6 : decode cX3_mark 6 = .ok (.invokestatic 63, 3) := by decide +kernel
theorem dX3_mark_9 : decode cX3_mark 9 = .ok (.ifCond .eq 11, 3) := by decide +kernel
theorem dX3_mark_12 : decode cX3_mark 12 = .ok (.aload_n 0, 1) := by decide +kernel
theorem dX3_mark_13 : decode cX3_mark 13 = .ok (.iload_n 2, 1) := by decide +kernel
theorem dX3_mark_14 : decode cX3_mark 14 = .ok (.invokevirtual 123, 3) := by decide +kernel
theorem dX3_mark_17 : decode cX3_mark 17 = .ok (.ifCond .ne 6, 3) := by decide +kernel
theorem dX3_mark_20 : decode cX3_mark 20 = .ok (.ldc 174, 2) := by decide +kernel
theorem dX3_mark_22 : decode cX3_mark 22 = .ok (.ireturn, 1) := by decide +kernel
theorem dX3_mark_23 : decode cX3_mark 23 = .ok (.aload_n 0, 1) := by decide +kernel
theorem dX3_mark_24 : decode cX3_mark 24 = .ok (.getfield 13, 3) := by decide +kernel
theorem dX3_mark_27 : decode cX3_mark 27 = .ok (.iload_n 2, 1) := by decide +kernel
theorem dX3_mark_28 : decode cX3_mark 28 = .ok (.iaload, 1) := by decide +kernel
theorem dX3_mark_29 : decode cX3_mark 29 = .ok (.invokestatic 160, 3) := by decide +kernel
theorem dX3_mark_32 : decode cX3_mark 32 = .ok (.aload_n 0, 1) := by decide +kernel
theorem dX3_mark_33 : decode cX3_mark 33 = .ok (.getfield 16, 3) := by decide +kernel
theorem dX3_mark_36 : decode cX3_mark 36 = .ok (.iload_n 2, 1) := by decide +kernel
theorem dX3_mark_37 : decode cX3_mark 37 = .ok (.iaload, 1) := by decide +kernel
theorem dX3_mark_38 : decode cX3_mark 38 = .ok (.invokestatic 160, 3) := by decide +kernel
theorem dX3_mark_41 : decode cX3_mark 41 = .ok (.iadd, 1) := by decide +kernel
theorem dX3_mark_42 : decode cX3_mark 42 = .ok (.istore_n 3, 1) := by decide +kernel
theorem dX3_mark_43 : decode cX3_mark 43 = .ok (.aload_n 0, 1) := by decide +kernel
theorem dX3_mark_44 : decode cX3_mark 44 = .ok (.dup, 1) := by decide +kernel
theorem dX3_mark_45 : decode cX3_mark 45 = .ok (.getfield 175, 3) := by decide +kernel
theorem dX3_mark_48 : decode cX3_mark 48 = .ok (.lconst 1, 1) := by decide +kernel
theorem dX3_mark_49 : decode cX3_mark 49 = .ok (.ladd, 1) := by decide +kernel
theorem dX3_mark_50 : decode cX3_mark 50 = .ok (.putfield 175, 3) := by decide +kernel
theorem dX3_mark_53 : decode cX3_mark 53 = .ok (.iload_n 1, 1) := by decide +kernel
theorem dX3_mark_54 : decode cX3_mark 54 = .ok (.tableswitch 146 1 5 #[34, 50, 74, 92, 125], 34) := by decide +kernel
theorem dX3_mark_88 : decode cX3_mark 88 = .ok (.aload_n 0, 1) := by decide +kernel
theorem dX3_mark_89 : decode cX3_mark 89 = .ok (.dup, 1) := by decide +kernel
theorem dX3_mark_90 : decode cX3_mark 90 = .ok (.getfield 175, 3) := by decide +kernel
theorem dX3_mark_93 : decode cX3_mark 93 = .ok (.ldc2_w 179, 3) := by decide +kernel
theorem dX3_mark_96 : decode cX3_mark 96 = .ok (.ladd, 1) := by decide +kernel
theorem dX3_mark_97 : decode cX3_mark 97 = .ok (.putfield 175, 3) := by decide +kernel
theorem dX3_mark_100 : decode cX3_mark 100 = .ok (.iconst 2, 1) := by decide +kernel
theorem dX3_mark_101 : decode cX3_mark 101 = .ok (.iload_n 3, 1) := by decide +kernel
theorem dX3_mark_102 : decode cX3_mark 102 = .ok (.imul, 1) := by decide +kernel
theorem dX3_mark_103 : decode cX3_mark 103 = .ok (.ireturn, 1) := by decide +kernel
theorem dX3_mark_104 : decode cX3_mark 104 = .ok (.aload_n 0, 1) := by decide +kernel
theorem dX3_mark_105 : decode cX3_mark 105 = .ok (.dup, 1) := by decide +kernel
theorem dX3_mark_106 : decode cX3_mark 106 = .ok (.getfield 175, 3) := by decide +kernel
theorem dX3_mark_109 : decode cX3_mark 109 = .ok (.ldc2_w 181, 3) := by decide +kernel
theorem dX3_mark_112 : decode cX3_mark 112 = .ok (.ladd, 1) := by decide +kernel
theorem dX3_mark_113 : decode cX3_mark 113 = .ok (.putfield 175, 3) := by decide +kernel
theorem dX3_mark_116 : decode cX3_mark 116 = .ok (.iload_n 3, 1) := by decide +kernel
theorem dX3_mark_117 : decode cX3_mark 117 = .ok (.aload_n 0, 1) := by decide +kernel
theorem dX3_mark_118 : decode cX3_mark 118 = .ok (.getfield 16, 3) := by decide +kernel
theorem dX3_mark_121 : decode cX3_mark 121 = .ok (.iload_n 2, 1) := by decide +kernel
theorem dX3_mark_122 : decode cX3_mark 122 = .ok (.iaload, 1) := by decide +kernel
theorem dX3_mark_123 : decode cX3_mark 123 = .ok (.invokestatic 160, 3) := by decide +kernel
theorem dX3_mark_126 : decode cX3_mark 126 = .ok (.isub, 1) := by decide +kernel
theorem dX3_mark_127 : decode cX3_mark 127 = .ok (.ireturn, 1) := by decide +kernel
theorem dX3_mark_128 : decode cX3_mark 128 = .ok (.aload_n 0, 1) := by decide +kernel
theorem dX3_mark_129 : decode cX3_mark 129 = .ok (.dup, 1) := by decide +kernel
theorem dX3_mark_130 : decode cX3_mark 130 = .ok (.getfield 175, 3) := by decide +kernel
theorem dX3_mark_133 : decode cX3_mark 133 = .ok (.ldc2_w 183, 3) := by decide +kernel
theorem dX3_mark_136 : decode cX3_mark 136 = .ok (.ladd, 1) := by decide +kernel
theorem dX3_mark_137 : decode cX3_mark 137 = .ok (.putfield 175, 3) := by decide +kernel
theorem dX3_mark_140 : decode cX3_mark 140 = .ok (.iconst 2, 1) := by decide +kernel
theorem dX3_mark_141 : decode cX3_mark 141 = .ok (.iload_n 3, 1) := by decide +kernel
theorem dX3_mark_142 : decode cX3_mark 142 = .ok (.imul, 1) := by decide +kernel
theorem dX3_mark_143 : decode cX3_mark 143 = .ok (.iload_n 2, 1) := by decide +kernel
theorem dX3_mark_144 : decode cX3_mark 144 = .ok (.iadd, 1) := by decide +kernel
theorem dX3_mark_145 : decode cX3_mark 145 = .ok (.ireturn, 1) := by decide +kernel
theorem dX3_mark_146 : decode cX3_mark 146 = .ok (.aload_n 0, 1) := by decide +kernel
theorem dX3_mark_147 : decode cX3_mark 147 = .ok (.dup, 1) := by decide +kernel
theorem dX3_mark_148 : decode cX3_mark 148 = .ok (.getfield 175, 3) := by decide +kernel
theorem dX3_mark_151 : decode cX3_mark 151 = .ok (.ldc2_w 185, 3) := by decide +kernel
theorem dX3_mark_154 : decode cX3_mark 154 = .ok (.ladd, 1) := by decide +kernel
theorem dX3_mark_155 : decode cX3_mark 155 = .ok (.putfield 175, 3) := by decide +kernel
theorem dX3_mark_158 : decode cX3_mark 158 = .ok (.iload_n 3, 1) := by decide +kernel
theorem dX3_mark_159 : decode cX3_mark 159 = .ok (.aload_n 0, 1) := by decide +kernel
theorem dX3_mark_160 : decode cX3_mark 160 = .ok (.getfield 16, 3) := by decide +kernel
theorem dX3_mark_163 : decode cX3_mark 163 = .ok (.iload_n 2, 1) := by decide +kernel
theorem dX3_mark_164 : decode cX3_mark 164 = .ok (.iaload, 1) := by decide +kernel
theorem dX3_mark_165 : decode cX3_mark 165 = .ok (.invokestatic 160, 3) := by decide +kernel
theorem dX3_mark_168 : decode cX3_mark 168 = .ok (.isub, 1) := by decide +kernel
theorem dX3_mark_169 : decode cX3_mark 169 = .ok (.aload_n 0, 1) := by decide +kernel
theorem dX3_mark_170 : decode cX3_mark 170 = .ok (.getfield 114, 3) := by decide +kernel
theorem dX3_mark_173 : decode cX3_mark 173 = .ok (.iload_n 2, 1) := by decide +kernel
theorem dX3_mark_174 : decode cX3_mark 174 = .ok (.ishr, 1) := by decide +kernel
theorem dX3_mark_175 : decode cX3_mark 175 = .ok (.iconst 1, 1) := by decide +kernel
theorem dX3_mark_176 : decode cX3_mark 176 = .ok (.iand, 1) := by decide +kernel
theorem dX3_mark_177 : decode cX3_mark 177 = .ok (.iadd, 1) := by decide +kernel
theorem dX3_mark_178 : decode cX3_mark 178 = .ok (.ireturn, 1) := by decide +kernel
theorem dX3_mark_179 : decode cX3_mark 179 = .ok (.aload_n 0, 1) := by decide +kernel
theorem dX3_mark_180 : decode cX3_mark 180 = .ok (.dup, 1) := by decide +kernel
theorem dX3_mark_181 : decode cX3_mark 181 = .ok (.getfield 175, 3) := by decide +kernel
theorem dX3_mark_184 : decode cX3_mark 184 = .ok (.ldc2_w 187, 3) := by decide +kernel
theorem dX3_mark_187 : decode cX3_mark 187 = .ok (.ladd, 1) := by decide +kernel
theorem dX3_mark_188 : decode cX3_mark 188 = .ok (.putfield 175, 3) := by decide +kernel
theorem dX3_mark_191 : decode cX3_mark 191 = .ok (.iload_n 3, 1) := by decide +kernel
theorem dX3_mark_192 : decode cX3_mark 192 = .ok (.aload_n 0, 1) := by decide +kernel
theorem dX3_mark_193 : decode cX3_mark 193 = .ok (.getfield 7, 3) := by decide +kernel
theorem dX3_mark_196 : decode cX3_mark 196 = .ok (.iload_n 2, 1) := by decide +kernel
theorem dX3_mark_197 : decode cX3_mark 197 = .ok (.iaload, 1) := by decide +kernel
theorem dX3_mark_198 : decode cX3_mark 198 = .ok (.iadd, 1) := by decide +kernel
theorem dX3_mark_199 : decode cX3_mark 199 = .ok (.ireturn, 1) := by decide +kernel
theorem dX3_mark_200 : decode cX3_mark 200 = .ok (.iload_n 3, 1) := by decide +kernel
theorem dX3_mark_201 : decode cX3_mark 201 = .ok (.ireturn, 1) := by decide +kernel
set_option maxRecDepth 20000 in
theorem ggX3_keep_X3_in : GoodIn wsX3_keep wsX3_in := goodIn_r _ [9] (by decide +kernel) (by decide +kernel)
set_option maxRecDepth 20000 in
theorem gX3_keep_X3_in : GoodIn wsX3_keep (va_wsS RX3 63 yX3_in wsX3_in) := goodIn_app (goodIn_of _ (by decide +kernel)) ggX3_keep_X3_in
set_option maxRecDepth 20000 in
theorem ggX3_keep_X3_ones : GoodIn wsX3_keep wsX3_ones := goodIn_r _ [12] (by decide +kernel) (by decide +kernel)
set_option maxRecDepth 20000 in
theorem gX3_keep_X3_ones : GoodIn wsX3_keep (va_wsS RX3 160 yX3_ones wsX3_ones) := goodIn_app (goodIn_of _ (by decide +kernel)) ggX3_keep_X3_ones
theorem dX3_keep_0 : decode cX3_keep 0 = .ok (.iload_n 1, 1) := by decide +kernel
theorem dX3_keep_1 : decode cX3_keep 1 = .ok (.i2l, 1) := by decide +kernel
theorem dX3_keep_2 : decode cX3_keep 2 = .ok (.lconst 0, 1) := by decide +kernel
theorem dX3_keep_3 : decode cX3_keep 3 = .ok (.lconst 1, 1) := by decide +kernel
theorem dX3_keep_4 : decode cX3_keep 4 = .ok (.invokestatic 63, 3) := by decide +kernel
theorem dX3_keep_7 : decode cX3_keep 7 = .ok (.ifCond .ne 5, 3) := by decide +kernel
theorem dX3_keep_10 : decode cX3_keep 10 = .ok (.iconst (-1), 1) := by decide +kernel
theorem dX3_keep_11 : decode cX3_keep 11 = .ok (.ireturn, 1) := by decide +kernel
theorem dX3_keep_12 : decode cX3_keep 12 = .ok (.aload_n 0, 1) := by decide +kernel
theorem dX3_keep_13 : decode cX3_keep 13 = .ok (.getfield 22, 3) := by decide +kernel
theorem dX3_keep_16 : decode cX3_keep 16 = .ok (.iload_n 1, 1) := by decide +kernel
theorem dX3_keep_17 : decode cX3_keep 17 = .ok (.iconst 1, 1) := by decide +kernel
theorem dX3_keep_18 : decode cX3_keep 18 = .ok (.bastore, 1) := by decide +kernel
theorem dX3_keep_19 : decode cX3_keep 19 = .ok (.aload_n 0, 1) := by decide +kernel
theorem dX3_keep_20 : decode cX3_keep 20 = .ok (.getfield 26, 3) := by decide +kernel
theorem dX3_keep_23 : decode cX3_keep 23 = .ok (.iload_n 1, 1) := by decide +kernel
theorem dX3_keep_24 : decode cX3_keep 24 = .ok (.aload_n 0, 1) := by decide +kernel
theorem dX3_keep_25 : decode cX3_keep 25 = .ok (.getfield 114, 3) := by decide +kernel
theorem dX3_keep_28 : decode cX3_keep 28 = .ok (.iastore, 1) := by decide +kernel
theorem dX3_keep_29 : decode cX3_keep 29 = .ok (.aload_n 0, 1) := by decide +kernel
theorem dX3_keep_30 : decode cX3_keep 30 = .ok (.getfield 29, 3) := by decide +kernel
theorem dX3_keep_33 : decode cX3_keep 33 = .ok (.iload_n 1, 1) := by decide +kernel
theorem dX3_keep_34 : decode cX3_keep 34 = .ok (.aload_n 0, 1) := by decide +kernel
theorem dX3_keep_35 : decode cX3_keep 35 = .ok (.getfield 120, 3) := by decide +kernel
theorem dX3_keep_38 : decode cX3_keep 38 = .ok (.iastore, 1) := by decide +kernel
theorem dX3_keep_39 : decode cX3_keep 39 = .ok (.aload_n 0, 1) := by decide +kernel
theorem dX3_keep_40 : decode cX3_keep 40 = .ok (.getfield 114, 3) := by decide +kernel
theorem dX3_keep_43 : decode cX3_keep 43 = .ok (.invokestatic 160, 3) := by decide +kernel
theorem dX3_keep_46 : decode cX3_keep 46 = .ok (.ireturn, 1) := by decide +kernel
set_option maxRecDepth 20000 in
theorem ggX3_back_X3_in : GoodIn wsX3_back wsX3_in := goodIn_r _ [9] (by decide +kernel) (by decide +kernel)
set_option maxRecDepth 20000 in
theorem gX3_back_X3_in : GoodIn wsX3_back (va_wsS RX3 63 yX3_in wsX3_in) := goodIn_app (goodIn_of _ (by decide +kernel)) ggX3_back_X3_in
set_option maxRecDepth 20000 in
theorem ggX3_back_X3_ones : GoodIn wsX3_back wsX3_ones := goodIn_r _ [12] (by decide +kernel) (by decide +kernel)
set_option maxRecDepth 20000 in
theorem gX3_back_X3_ones : GoodIn wsX3_back (va_wsS RX3 160 yX3_ones wsX3_ones) := goodIn_app (goodIn_of _ (by decide +kernel)) ggX3_back_X3_ones
theorem dX3_back_0 : decode cX3_back 0 = .ok (.iload_n 1, 1) := by decide +kernel
theorem dX3_back_1 : decode cX3_back 1 = .ok (.i2l, 1) := by decide +kernel
theorem dX3_back_2 : decode cX3_back 2 = .ok (.lconst 0, 1) := by decide +kernel
theorem dX3_back_3 : decode cX3_back 3 = .ok (.lconst 1, 1) := by decide +kernel
theorem dX3_back_4 : decode cX3_back 4 = .ok (.invokestatic 63, 3) := by decide +kernel
theorem dX3_back_7 : decode cX3_back 7 = .ok (.ifCond .ne 5, 3) := by decide +kernel
theorem dX3_back_10 : decode cX3_back 10 = .ok (.iconst (-1), 1) := by decide +kernel
theorem dX3_back_11 : decode cX3_back 11 = .ok (.ireturn, 1) := by decide +kernel
theorem dX3_back_12 : decode cX3_back 12 = .ok (.aload_n 0, 1) := by decide +kernel
theorem dX3_back_13 : decode cX3_back 13 = .ok (.getfield 22, 3) := by decide +kernel
theorem dX3_back_16 : decode cX3_back 16 = .ok (.iload_n 1, 1) := by decide +kernel
theorem dX3_back_17 : decode cX3_back 17 = .ok (.baload, 1) := by decide +kernel
theorem dX3_back_18 : decode cX3_back 18 = .ok (.ifCond .ne 6, 3) := by decide +kernel
theorem dX3_back_21 : decode cX3_back 21 = .ok (.bipush (-2), 2) := by decide +kernel
theorem dX3_back_23 : decode cX3_back 23 = .ok (.ireturn, 1) := by decide +kernel
theorem dX3_back_24 : decode cX3_back 24 = .ok (.aload_n 0, 1) := by decide +kernel
theorem dX3_back_25 : decode cX3_back 25 = .ok (.aload_n 0, 1) := by decide +kernel
theorem dX3_back_26 : decode cX3_back 26 = .ok (.getfield 26, 3) := by decide +kernel
theorem dX3_back_29 : decode cX3_back 29 = .ok (.iload_n 1, 1) := by decide +kernel
theorem dX3_back_30 : decode cX3_back 30 = .ok (.iaload, 1) := by decide +kernel
theorem dX3_back_31 : decode cX3_back 31 = .ok (.putfield 114, 3) := by decide +kernel
theorem dX3_back_34 : decode cX3_back 34 = .ok (.aload_n 0, 1) := by decide +kernel
theorem dX3_back_35 : decode cX3_back 35 = .ok (.aload_n 0, 1) := by decide +kernel
theorem dX3_back_36 : decode cX3_back 36 = .ok (.getfield 29, 3) := by decide +kernel
theorem dX3_back_39 : decode cX3_back 39 = .ok (.iload_n 1, 1) := by decide +kernel
theorem dX3_back_40 : decode cX3_back 40 = .ok (.iaload, 1) := by decide +kernel
theorem dX3_back_41 : decode cX3_back 41 = .ok (.putfield 120, 3) := by decide +kernel
theorem dX3_back_44 : decode cX3_back 44 = .ok (.aload_n 0, 1) := by decide +kernel
theorem dX3_back_45 : decode cX3_back 45 = .ok (.getfield 114, 3) := by decide +kernel
theorem dX3_back_48 : decode cX3_back 48 = .ok (.invokestatic 160, 3) := by decide +kernel
theorem dX3_back_51 : decode cX3_back 51 = .ok (.ireturn, 1) := by decide +kernel
set_option maxRecDepth 20000 in
theorem ggX3_count_X3_ones : GoodIn wsX3_count wsX3_ones := goodIn_r _ [9] (by decide +kernel) (by decide +kernel)
set_option maxRecDepth 20000 in
theorem gX3_count_X3_ones : GoodIn wsX3_count (va_wsS RX3 160 yX3_ones wsX3_ones) := goodIn_app (goodIn_of _ (by decide +kernel)) ggX3_count_X3_ones
theorem dX3_count_0 : decode cX3_count 0 = .ok (.iload_n 1, 1) := by decide +kernel
theorem dX3_count_1 : decode cX3_count 1 = .ok (.tableswitch 63 0 4 #[35, 40, 48, 53, 58], 35) := by decide +kernel
theorem dX3_count_36 : decode cX3_count 36 = .ok (.aload_n 0, 1) := by decide +kernel
theorem dX3_count_37 : decode cX3_count 37 = .ok (.getfield 59, 3) := by decide +kernel
theorem dX3_count_40 : decode cX3_count 40 = .ok (.ireturn, 1) := by decide +kernel
theorem dX3_count_41 : decode cX3_count 41 = .ok (.aload_n 0, 1) := by decide +kernel
theorem dX3_count_42 : decode cX3_count 42 = .ok (.getfield 114, 3) := by decide +kernel
theorem dX3_count_45 : decode cX3_count 45 = .ok (.invokestatic 160, 3) := by decide +kernel
theorem dX3_count_48 : decode cX3_count 48 = .ok (.ireturn, 1) := by decide +kernel
theorem dX3_count_49 : decode cX3_count 49 = .ok (.aload_n 0, 1) := by decide +kernel
theorem dX3_count_50 : decode cX3_count 50 = .ok (.getfield 117, 3) := by decide +kernel
theorem dX3_count_53 : decode cX3_count 53 = .ok (.ireturn, 1) := by decide +kernel
theorem dX3_count_54 : decode cX3_count 54 = .ok (.aload_n 0, 1) := by decide +kernel
theorem dX3_count_55 : decode cX3_count 55 = .ok (.getfield 120, 3) := by decide +kernel
theorem dX3_count_58 : decode cX3_count 58 = .ok (.ireturn, 1) := by decide +kernel
theorem dX3_count_59 : decode cX3_count 59 = .ok (.aload_n 0, 1) := by decide +kernel
theorem dX3_count_60 : decode cX3_count 60 = .ok (.getfield 69, 3) := by decide +kernel
theorem dX3_count_63 : decode cX3_count 63 = .ok (.ireturn, 1) := by decide +kernel
theorem dX3_count_64 : decode cX3_count 64 = .ok (.iconst (-1), 1) := by decide +kernel
theorem dX3_count_65 : decode cX3_count 65 = .ok (.ireturn, 1) := by decide +kernel
theorem dX3_trace_0 : decode cX3_trace 0 = .ok (.aload_n 0, 1) := by decide +kernel
theorem dX3_trace_1 : decode cX3_trace 1 = .ok (.getfield 175, 3) := by decide +kernel
theorem dX3_trace_4 : decode cX3_trace 4 = .ok (.lreturn, 1) := by decide +kernel
