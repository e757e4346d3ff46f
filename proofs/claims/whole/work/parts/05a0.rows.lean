theorem dX1_init_0 : decode cX1_init 0 = .ok (.aload_n 0, 1) := by decide +kernel
theorem dX1_init_1 : decode cX1_init 1 = .ok (.invokespecial 3, 3) := by decide +kernel
theorem dX1_init_4 : decode cX1_init 4 = .ok (.aload_n 0, 1) := by decide +kernel
theorem dX1_init_5 : decode cX1_init 5 = .ok (.sipush 300, 3) := by decide +kernel
theorem dX1_init_8 : decode cX1_init 8 = .ok (.newarray .byte, 2) := by decide +kernel
theorem dX1_init_10 : decode cX1_init 10 = .ok (.putfield 9, 3) := by decide +kernel
theorem dX1_init_13 : decode cX1_init 13 = .ok (.return_, 1) := by decide +kernel
theorem dX1_append_0 : decode cX1_append 0 = .ok (.aload_n 0, 1) := by decide +kernel
theorem dX1_append_1 : decode cX1_append 1 = .ok (.getfield 15, 3) := by decide +kernel
theorem dX1_append_4 : decode cX1_append 4 = .ok (.ifCond .lt 33, 3) := by decide +kernel
theorem dX1_append_7 : decode cX1_append 7 = .ok (.aload_n 0, 1) := by decide +kernel
theorem dX1_append_8 : decode cX1_append 8 = .ok (.getfield 15, 3) := by decide +kernel
theorem dX1_append_11 : decode cX1_append 11 = .ok (.sipush 300, 3) := by decide +kernel
theorem dX1_append_14 : decode cX1_append 14 = .ok (.if_icmp .ge 23, 3) := by decide +kernel
theorem dX1_append_17 : decode cX1_append 17 = .ok (.aload_n 0, 1) := by decide +kernel
theorem dX1_append_18 : decode cX1_append 18 = .ok (.getfield 9, 3) := by decide +kernel
theorem dX1_append_21 : decode cX1_append 21 = .ok (.aload_n 0, 1) := by decide +kernel
theorem dX1_append_22 : decode cX1_append 22 = .ok (.getfield 15, 3) := by decide +kernel
theorem dX1_append_25 : decode cX1_append 25 = .ok (.iload_n 1, 1) := by decide +kernel
theorem dX1_append_26 : decode cX1_append 26 = .ok (.bastore, 1) := by decide +kernel
theorem dX1_append_27 : decode cX1_append 27 = .ok (.aload_n 0, 1) := by decide +kernel
theorem dX1_append_28 : decode cX1_append 28 = .ok (.dup, 1) := by decide +kernel
theorem dX1_append_29 : decode cX1_append 29 = .ok (.getfield 15, 3) := by decide +kernel
theorem dX1_append_32 : decode cX1_append 32 = .ok (.iconst 1, 1) := by decide +kernel
theorem dX1_append_33 : decode cX1_append 33 = .ok (.iadd, 1) := by decide +kernel
theorem dX1_append_34 : decode cX1_append 34 = .ok (.putfield 15, 3) := by decide +kernel
theorem dX1_append_37 : decode cX1_append 37 = .ok (.return_, 1) := by decide +kernel
set_option maxRecDepth 20000 in
theorem ggX1_readInto_X0_forgetAll : GoodIn wsX1_readInto wsX0_forgetAll := goodIn_r _ [6, 7, 8, 67, 68, 69, 70, 71] (by decide +kernel) (by decide +kernel)
set_option maxRecDepth 20000 in
theorem gX1_readInto_X0_forgetAll_n19 : GoodIn wsX1_readInto (wsX0_forgetAll) := ggX1_readInto_X0_forgetAll
set_option maxRecDepth 20000 in
theorem ggX1_readInto_X1_advance : GoodIn wsX1_readInto wsX1_advance := goodIn_r _ [13, 1, 14, 15, 2, 16, 17, 18, 12, 19, 20, 21, 22, 23, 24, 25, 26, 27, 28, 29, 30, 31, 32, 33, 34, 35, 36, 62, 63, 64, 65, 66] (by decide +kernel) (by decide +kernel)
set_option maxRecDepth 20000 in
theorem gX1_readInto_X1_advance : GoodIn wsX1_readInto (wsV RX1 27 RX1 yX1_advance wsX1_advance) := goodIn_app (goodIn_of _ (by decide +kernel)) ggX1_readInto_X1_advance
set_option maxRecDepth 20000 in
theorem ggX1_readInto_X1_readMay : GoodIn wsX1_readInto wsX1_readMay := goodIn_r _ [40, 2, 9, 10, 11, 12, 13, 1, 14, 15, 16, 17, 18, 19, 20, 21, 22, 23, 24, 25, 26, 27, 28, 29, 30, 31, 32, 33, 34, 35, 36, 41, 42, 43, 44, 45, 46, 47, 62, 63, 64, 65, 66, 67, 68, 69, 70, 71] (by decide +kernel) (by decide +kernel)
set_option maxRecDepth 20000 in
theorem gX1_readInto_X1_readMay : GoodIn wsX1_readInto (wsV RX1 33 RX1 yX1_readMay wsX1_readMay) := goodIn_app (goodIn_of _ (by decide +kernel)) ggX1_readInto_X1_readMay
set_option maxRecDepth 20000 in
theorem ggX1_readInto_X1_readRule : GoodIn wsX1_readInto wsX1_readRule := goodIn_r _ [51, 2, 45, 46, 47, 52, 4, 53, 54, 7, 9, 10, 11, 12, 13, 1, 14, 15, 16, 17, 18, 19, 20, 21, 22, 23, 24, 25, 26, 27, 28, 29, 30, 31, 32, 33, 34, 35, 36, 41, 42, 43, 44, 55, 56, 57, 58, 59, 60, 61, 62, 63, 64, 65, 66, 67, 68, 69, 70, 71] (by decide +kernel) (by decide +kernel)
set_option maxRecDepth 20000 in
theorem gX1_readInto_X1_readRule : GoodIn wsX1_readInto (wsV RX1 37 RX1 yX1_readRule wsX1_readRule) := goodIn_app (goodIn_of _ (by decide +kernel)) ggX1_readInto_X1_readRule
theorem dX1_readInto_0 : decode cX1_readInto 0 = .ok (.aload_n 1, 1) := by decide +kernel
theorem dX1_readInto_1 : decode cX1_readInto 1 = .ok (.invokevirtual 19, 3) := by decide +kernel
theorem dX1_readInto_4 : decode cX1_readInto 4 = .ok (.aload_n 0, 1) := by decide +kernel
theorem dX1_readInto_5 : decode cX1_readInto 5 = .ok (.iconst 0, 1) := by decide +kernel
theorem dX1_readInto_6 : decode cX1_readInto 6 = .ok (.putfield 24, 3) := by decide +kernel
theorem dX1_readInto_9 : decode cX1_readInto 9 = .ok (.aload_n 0, 1) := by decide +kernel
theorem dX1_readInto_10 : decode cX1_readInto 10 = .ok (.invokevirtual 27, 3) := by decide +kernel
theorem dX1_readInto_13 : decode cX1_readInto 13 = .ok (.iconst 0, 1) := by decide +kernel
theorem dX1_readInto_14 : decode cX1_readInto 14 = .ok (.istore_n 2, 1) := by decide +kernel
theorem dX1_readInto_15 : decode cX1_readInto 15 = .ok (.aload_n 0, 1) := by decide +kernel
theorem dX1_readInto_16 : decode cX1_readInto 16 = .ok (.getfield 30, 3) := by decide +kernel
theorem dX1_readInto_19 : decode cX1_readInto 19 = .ok (.bipush 13, 2) := by decide +kernel
theorem dX1_readInto_21 : decode cX1_readInto 21 = .ok (.if_icmp .eq 46, 3) := by decide +kernel
theorem dX1_readInto_24 : decode cX1_readInto 24 = .ok (.iload_n 2, 1) := by decide +kernel
theorem dX1_readInto_25 : decode cX1_readInto 25 = .ok (.sipush 300, 3) := by decide +kernel
theorem dX1_readInto_28 : decode cX1_readInto 28 = .ok (.if_icmp .ge 39, 3) := by decide +kernel
theorem dX1_readInto_31 : decode cX1_readInto 31 = .ok (.aload_n 0, 1) := by decide +kernel
theorem dX1_readInto_32 : decode cX1_readInto 32 = .ok (.getfield 30, 3) := by decide +kernel
theorem dX1_readInto_35 : decode cX1_readInto 35 = .ok (.bipush 11, 2) := by decide +kernel
theorem dX1_readInto_37 : decode cX1_readInto 37 = .ok (.if_icmp .ne 11, 3) := by decide +kernel
theorem dX1_readInto_40 : decode cX1_readInto 40 = .ok (.aload_n 0, 1) := by decide +kernel
theorem dX1_readInto_41 : decode cX1_readInto 41 = .ok (.aload_n 1, 1) := by decide +kernel
theorem dX1_readInto_42 : decode cX1_readInto 42 = .ok (.invokevirtual 33, 3) := by decide +kernel
theorem dX1_readInto_45 : decode cX1_readInto 45 = .ok (.goto 8, 3) := by decide +kernel
theorem dX1_readInto_48 : decode cX1_readInto 48 = .ok (.aload_n 0, 1) := by decide +kernel
theorem dX1_readInto_49 : decode cX1_readInto 49 = .ok (.aload_n 1, 1) := by decide +kernel
theorem dX1_readInto_50 : decode cX1_readInto 50 = .ok (.invokevirtual 37, 3) := by decide +kernel
theorem dX1_readInto_53 : decode cX1_readInto 53 = .ok (.istore_n 3, 1) := by decide +kernel
theorem dX1_readInto_54 : decode cX1_readInto 54 = .ok (.iload_n 3, 1) := by decide +kernel
theorem dX1_readInto_55 : decode cX1_readInto 55 = .ok (.ifCond .ne 6, 3) := by decide +kernel
theorem dX1_readInto_58 : decode cX1_readInto 58 = .ok (.bipush (-9), 2) := by decide +kernel
theorem dX1_readInto_60 : decode cX1_readInto 60 = .ok (.ireturn, 1) := by decide +kernel
theorem dX1_readInto_61 : decode cX1_readInto 61 = .ok (.iinc 2 1, 3) := by decide +kernel
theorem dX1_readInto_64 : decode cX1_readInto 64 = .ok (.goto (-49), 3) := by decide +kernel
theorem dX1_readInto_67 : decode cX1_readInto 67 = .ok (.iload_n 2, 1) := by decide +kernel
theorem dX1_readInto_68 : decode cX1_readInto 68 = .ok (.ireturn, 1) := by decide +kernel
set_option maxRecDepth 20000 in
theorem ggX1_readMay_X1_advance : GoodIn wsX1_readMay wsX1_advance := goodIn_r _ [6, 7, 8, 9, 1, 10, 11, 12, 5, 13, 14, 15, 16, 17, 18, 19, 20, 21, 22, 23, 24, 25, 26, 27, 28, 29, 30, 38, 39, 40, 41, 42] (by decide +kernel) (by decide +kernel)
set_option maxRecDepth 20000 in
theorem gX1_readMay_X1_advance : GoodIn wsX1_readMay (wsV RX1 27 RX1 yX1_advance wsX1_advance) := goodIn_app (goodIn_of _ (by decide +kernel)) ggX1_readMay_X1_advance
set_option maxRecDepth 20000 in
theorem ggX1_readMay_X1_readSentences : GoodIn wsX1_readMay wsX1_readSentences := goodIn_r _ [34, 1, 35, 36, 37, 2, 3, 4, 5, 6, 7, 8, 9, 10, 11, 12, 13, 14, 15, 16, 17, 18, 19, 20, 21, 22, 23, 24, 25, 26, 27, 28, 29, 30, 38, 39, 40, 41, 42] (by decide +kernel) (by decide +kernel)
set_option maxRecDepth 20000 in
theorem gX1_readMay_X1_readSentences : GoodIn wsX1_readMay (wsV RX1 40 RX1 yX1_readSentences wsX1_readSentences) := goodIn_app (goodIn_of _ (by decide +kernel)) ggX1_readMay_X1_readSentences
theorem dX1_readMay_0 : decode cX1_readMay 0 = .ok (.aload_n 0, 1) := by decide +kernel
theorem dX1_readMay_1 : decode cX1_readMay 1 = .ok (.invokevirtual 27, 3) := by decide +kernel
theorem dX1_readMay_4 : decode cX1_readMay 4 = .ok (.aload_n 0, 1) := by decide +kernel
theorem dX1_readMay_5 : decode cX1_readMay 5 = .ok (.invokevirtual 40, 3) := by decide +kernel
theorem dX1_readMay_8 : decode cX1_readMay 8 = .ok (.istore_n 2, 1) := by decide +kernel
theorem dX1_readMay_9 : decode cX1_readMay 9 = .ok (.iload_n 2, 1) := by decide +kernel
theorem dX1_readMay_10 : decode cX1_readMay 10 = .ok (.ifCond .eq 12, 3) := by decide +kernel
theorem dX1_readMay_13 : decode cX1_readMay 13 = .ok (.aload_n 0, 1) := by decide +kernel
theorem dX1_readMay_14 : decode cX1_readMay 14 = .ok (.getfield 30, 3) := by decide +kernel
theorem dX1_readMay_17 : decode cX1_readMay 17 = .ok (.bipush 12, 2) := by decide +kernel
theorem dX1_readMay_19 : decode cX1_readMay 19 = .ok (.if_icmp .eq 5, 3) := by decide +kernel
theorem dX1_readMay_22 : decode cX1_readMay 22 = .ok (.iconst 0, 1) := by decide +kernel
theorem dX1_readMay_23 : decode cX1_readMay 23 = .ok (.ireturn, 1) := by decide +kernel
theorem dX1_readMay_24 : decode cX1_readMay 24 = .ok (.aload_n 1, 1) := by decide +kernel
theorem dX1_readMay_25 : decode cX1_readMay 25 = .ok (.dup, 1) := by decide +kernel
theorem dX1_readMay_26 : decode cX1_readMay 26 = .ok (.getfield 44, 3) := by decide +kernel
theorem dX1_readMay_29 : decode cX1_readMay 29 = .ok (.iload_n 2, 1) := by decide +kernel
theorem dX1_readMay_30 : decode cX1_readMay 30 = .ok (.ior, 1) := by decide +kernel
theorem dX1_readMay_31 : decode cX1_readMay 31 = .ok (.putfield 44, 3) := by decide +kernel
theorem dX1_readMay_34 : decode cX1_readMay 34 = .ok (.aload_n 0, 1) := by decide +kernel
theorem dX1_readMay_35 : decode cX1_readMay 35 = .ok (.invokevirtual 27, 3) := by decide +kernel
theorem dX1_readMay_38 : decode cX1_readMay 38 = .ok (.iconst 1, 1) := by decide +kernel
theorem dX1_readMay_39 : decode cX1_readMay 39 = .ok (.ireturn, 1) := by decide +kernel
set_option maxRecDepth 20000 in
theorem ggX1_readRule_X2_isSentence : GoodIn wsX1_readRule wsX2_isSentence := goodIn_r _ [4] (by decide +kernel) (by decide +kernel)
set_option maxRecDepth 20000 in
theorem gX1_readRule_X2_isSentence_n47 : GoodIn wsX1_readRule (wsX2_isSentence) := ggX1_readRule_X2_isSentence
set_option maxRecDepth 20000 in
theorem ggX1_readRule_X0_hasRoom : GoodIn wsX1_readRule wsX0_hasRoom := goodIn_r _ [8, 9, 55, 56, 57, 58, 59] (by decide +kernel) (by decide +kernel)
set_option maxRecDepth 20000 in
theorem gX1_readRule_X0_hasRoom_n51 : GoodIn wsX1_readRule (wsX0_hasRoom) := ggX1_readRule_X0_hasRoom
set_option maxRecDepth 20000 in
theorem ggX1_readRule_X1_advance : GoodIn wsX1_readRule wsX1_advance := goodIn_r _ [14, 15, 16, 17, 1, 18, 19, 20, 13, 21, 22, 23, 24, 25, 26, 27, 28, 29, 30, 31, 32, 33, 34, 35, 36, 37, 38, 50, 51, 52, 53, 54] (by decide +kernel) (by decide +kernel)
set_option maxRecDepth 20000 in
theorem gX1_readRule_X1_advance : GoodIn wsX1_readRule (wsV RX1 27 RX1 yX1_advance wsX1_advance) := goodIn_app (goodIn_of _ (by decide +kernel)) ggX1_readRule_X1_advance
set_option maxRecDepth 20000 in
theorem ggX1_readRule_X1_readSentences : GoodIn wsX1_readRule wsX1_readSentences := goodIn_r _ [42, 1, 2, 3, 4, 10, 11, 12, 13, 14, 15, 16, 17, 18, 19, 20, 21, 22, 23, 24, 25, 26, 27, 28, 29, 30, 31, 32, 33, 34, 35, 36, 37, 38, 50, 51, 52, 53, 54] (by decide +kernel) (by decide +kernel)
set_option maxRecDepth 20000 in
theorem gX1_readRule_X1_readSentences : GoodIn wsX1_readRule (wsV RX1 40 RX1 yX1_readSentences wsX1_readSentences) := goodIn_app (goodIn_of _ (by decide +kernel)) ggX1_readRule_X1_readSentences
set_option maxRecDepth 20000 in
theorem ggX1_readRule_X0_add : GoodIn wsX1_readRule wsX0_add := goodIn_r _ [45, 46, 9, 47, 48, 49, 5, 7, 6, 8, 55, 56, 57, 58, 59] (by decide +kernel) (by decide +kernel)
set_option maxRecDepth 20000 in
theorem gX1_readRule_X0_add_n55 : GoodIn wsX1_readRule (wsX0_add) := ggX1_readRule_X0_add
theorem dX1_readRule_0 : decode cX1_readRule 0 = .ok (.aload_n 0, 1) := by decide +kernel
theorem dX1_readRule_1 : decode cX1_readRule 1 = .ok (.getfield 30, 3) := by decide +kernel
theorem dX1_readRule_4 : decode cX1_readRule 4 = .ok (.bipush 10, 2) := by decide +kernel
theorem dX1_readRule_6 : decode cX1_readRule 6 = .ok (.if_icmp .eq 13, 3) := by decide +kernel
theorem dX1_readRule_9 : decode cX1_readRule 9 = .ok (.aload_n 0, 1) := by decide +kernel
theorem dX1_readRule_10 : decode cX1_readRule 10 = .ok (.getfield 30, 3) := by decide +kernel
theorem dX1_readRule_13 : decode cX1_readRule 13 = .ok (.invokestatic 47, 3) := by decide +kernel
theorem dX1_readRule_16 : decode cX1_readRule 16 = .ok (.ifCond .eq 7, 3) := by decide +kernel
theorem dX1_readRule_19 : decode cX1_readRule 19 = .ok (.iconst 1, 1) := by decide +kernel
theorem dX1_readRule_20 : decode cX1_readRule 20 = .ok (.goto 4, 3) := by decide +kernel
theorem dX1_readRule_23 : decode cX1_readRule 23 = .ok (.iconst 0, 1) := by decide +kernel
theorem dX1_readRule_24 : decode cX1_readRule 24 = .ok (.istore_n 2, 1) := by decide +kernel
theorem dX1_readRule_25 : decode cX1_readRule 25 = .ok (.iload_n 2, 1) := by decide +kernel
theorem dX1_readRule_26 : decode cX1_readRule 26 = .ok (.ifCond .eq 10, 3) := by decide +kernel
theorem dX1_readRule_29 : decode cX1_readRule 29 = .ok (.aload_n 1, 1) := by decide +kernel
theorem dX1_readRule_30 : decode cX1_readRule 30 = .ok (.invokevirtual 51, 3) := by decide +kernel
theorem dX1_readRule_33 : decode cX1_readRule 33 = .ok (.ifCond .ne 5, 3) := by decide +kernel
theorem dX1_readRule_36 : decode cX1_readRule 36 = .ok (.iconst 0, 1) := by decide +kernel
theorem dX1_readRule_37 : decode cX1_readRule 37 = .ok (.ireturn, 1) := by decide +kernel
theorem dX1_readRule_38 : decode cX1_readRule 38 = .ok (.aload_n 0, 1) := by decide +kernel
theorem dX1_readRule_39 : decode cX1_readRule 39 = .ok (.getfield 30, 3) := by decide +kernel
theorem dX1_readRule_42 : decode cX1_readRule 42 = .ok (.bipush 10, 2) := by decide +kernel
theorem dX1_readRule_44 : decode cX1_readRule 44 = .ok (.if_icmp .ne 8, 3) := by decide +kernel
theorem dX1_readRule_47 : decode cX1_readRule 47 = .ok (.bipush 8, 2) := by decide +kernel
theorem dX1_readRule_49 : decode cX1_readRule 49 = .ok (.goto 7, 3) := by decide +kernel
theorem dX1_readRule_52 : decode cX1_readRule 52 = .ok (.aload_n 0, 1) := by decide +kernel
theorem dX1_readRule_53 : decode cX1_readRule 53 = .ok (.getfield 30, 3) := by decide +kernel
theorem dX1_readRule_56 : decode cX1_readRule 56 = .ok (.istore_n 3, 1) := by decide +kernel
theorem dX1_readRule_57 : decode cX1_readRule 57 = .ok (.iconst 0, 1) := by decide +kernel
theorem dX1_readRule_58 : decode cX1_readRule 58 = .ok (.istore 4, 2) := by decide +kernel
theorem dX1_readRule_60 : decode cX1_readRule 60 = .ok (.iconst 0, 1) := by decide +kernel
theorem dX1_readRule_61 : decode cX1_readRule 61 = .ok (.istore 5, 2) := by decide +kernel
theorem dX1_readRule_63 : decode cX1_readRule 63 = .ok (.aload_n 0, 1) := by decide +kernel
theorem dX1_readRule_64 : decode cX1_readRule 64 = .ok (.invokevirtual 27, 3) := by decide +kernel
theorem dX1_readRule_67 : decode cX1_readRule 67 = .ok (.aload_n 0, 1) := by decide +kernel
theorem dX1_readRule_68 : decode cX1_readRule 68 = .ok (.getfield 30, 3) := by decide +kernel
theorem dX1_readRule_71 : decode cX1_readRule 71 = .ok (.bipush 8, 2) := by decide +kernel
theorem dX1_readRule_73 : decode cX1_readRule 73 = .ok (.if_icmp .ne 20, 3) := by decide +kernel
theorem dX1_readRule_76 : decode cX1_readRule 76 = .ok (.aload_n 0, 1) := by decide +kernel
theorem dX1_readRule_77 : decode cX1_readRule 77 = .ok (.invokevirtual 27, 3) := by decide +kernel
theorem dX1_readRule_80 : decode cX1_readRule 80 = .ok (.aload_n 0, 1) := by decide +kernel
theorem dX1_readRule_81 : decode cX1_readRule 81 = .ok (.invokevirtual 40, 3) := by decide +kernel
theorem dX1_readRule_84 : decode cX1_readRule 84 = .ok (.istore 4, 2) := by decide +kernel
theorem dX1_readRule_86 : decode cX1_readRule 86 = .ok (.iload 4, 2) := by decide +kernel
theorem dX1_readRule_88 : decode cX1_readRule 88 = .ok (.ifCond .ne 5, 3) := by decide +kernel
theorem dX1_readRule_91 : decode cX1_readRule 91 = .ok (.iconst 0, 1) := by decide +kernel
theorem dX1_readRule_92 : decode cX1_readRule 92 = .ok (.ireturn, 1) := by decide +kernel
theorem dX1_readRule_93 : decode cX1_readRule 93 = .ok (.aload_n 0, 1) := by decide +kernel
theorem dX1_readRule_94 : decode cX1_readRule 94 = .ok (.getfield 30, 3) := by decide +kernel
theorem dX1_readRule_97 : decode cX1_readRule 97 = .ok (.bipush 9, 2) := by decide +kernel
theorem dX1_readRule_99 : decode cX1_readRule 99 = .ok (.if_icmp .ne 20, 3) := by decide +kernel
theorem dX1_readRule_102 : decode cX1_readRule 102 = .ok (.aload_n 0, 1) := by decide +kernel
theorem dX1_readRule_103 : decode cX1_readRule 103 = .ok (.invokevirtual 27, 3) := by decide +kernel
theorem dX1_readRule_106 : decode cX1_readRule 106 = .ok (.aload_n 0, 1) := by decide +kernel
theorem dX1_readRule_107 : decode cX1_readRule 107 = .ok (.invokevirtual 40, 3) := by decide +kernel
theorem dX1_readRule_110 : decode cX1_readRule 110 = .ok (.istore 5, 2) := by decide +kernel
theorem dX1_readRule_112 : decode cX1_readRule 112 = .ok (.iload 5, 2) := by decide +kernel
theorem dX1_readRule_114 : decode cX1_readRule 114 = .ok (.ifCond .ne 5, 3) := by decide +kernel
theorem dX1_readRule_117 : decode cX1_readRule 117 = .ok (.iconst 0, 1) := by decide +kernel
theorem dX1_readRule_118 : decode cX1_readRule 118 = .ok (.ireturn, 1) := by decide +kernel
theorem dX1_readRule_119 : decode cX1_readRule 119 = .ok (.iload_n 3, 1) := by decide +kernel
theorem dX1_readRule_120 : decode cX1_readRule 120 = .ok (.bipush 8, 2) := by decide +kernel
theorem dX1_readRule_122 : decode cX1_readRule 122 = .ok (.if_icmp .ne 17, 3) := by decide +kernel
theorem dX1_readRule_125 : decode cX1_readRule 125 = .ok (.iload 4, 2) := by decide +kernel
theorem dX1_readRule_127 : decode cX1_readRule 127 = .ok (.ifCond .ne 12, 3) := by decide +kernel
theorem dX1_readRule_130 : decode cX1_readRule 130 = .ok (.iload 5, 2) := by decide +kernel
theorem dX1_readRule_132 : decode cX1_readRule 132 = .ok (.ifCond .ne 7, 3) := by decide +kernel
theorem dX1_readRule_135 : decode cX1_readRule 135 = .ok (.iconst 1, 1) := by decide +kernel
theorem dX1_readRule_136 : decode cX1_readRule 136 = .ok (.goto 4, 3) := by decide +kernel
theorem dX1_readRule_139 : decode cX1_readRule 139 = .ok (.iconst 0, 1) := by decide +kernel
theorem dX1_readRule_140 : decode cX1_readRule 140 = .ok (.istore 6, 2) := by decide +kernel
theorem dX1_readRule_142 : decode cX1_readRule 142 = .ok (.iload 6, 2) := by decide +kernel
theorem dX1_readRule_144 : decode cX1_readRule 144 = .ok (.ifCond .ne 12, 3) := by decide +kernel
theorem dX1_readRule_147 : decode cX1_readRule 147 = .ok (.aload_n 0, 1) := by decide +kernel
theorem dX1_readRule_148 : decode cX1_readRule 148 = .ok (.getfield 30, 3) := by decide +kernel
theorem dX1_readRule_151 : decode cX1_readRule 151 = .ok (.bipush 12, 2) := by decide +kernel
theorem dX1_readRule_153 : decode cX1_readRule 153 = .ok (.if_icmp .eq 5, 3) := by decide +kernel
theorem dX1_readRule_156 : decode cX1_readRule 156 = .ok (.iconst 0, 1) := by decide +kernel
theorem dX1_readRule_157 : decode cX1_readRule 157 = .ok (.ireturn, 1) := by decide +kernel
theorem dX1_readRule_158 : decode cX1_readRule 158 = .ok (.aload_n 1, 1) := by decide +kernel
theorem dX1_readRule_159 : decode cX1_readRule 159 = .ok (.iload_n 3, 1) := by decide +kernel
theorem dX1_readRule_160 : decode cX1_readRule 160 = .ok (.iload 4, 2) := by decide +kernel
theorem dX1_readRule_162 : decode cX1_readRule 162 = .ok (.iload 5, 2) := by decide +kernel
theorem dX1_readRule_164 : decode cX1_readRule 164 = .ok (.invokevirtual 55, 3) := by decide +kernel
theorem dX1_readRule_167 : decode cX1_readRule 167 = .ok (.aload_n 0, 1) := by decide +kernel
theorem dX1_readRule_168 : decode cX1_readRule 168 = .ok (.invokevirtual 27, 3) := by decide +kernel
theorem dX1_readRule_171 : decode cX1_readRule 171 = .ok (.iconst 1, 1) := by decide +kernel
theorem dX1_readRule_172 : decode cX1_readRule 172 = .ok (.ireturn, 1) := by decide +kernel
set_option maxRecDepth 20000 in
theorem ggX1_readSentences_X2_isSentence : GoodIn wsX1_readSentences wsX2_isSentence := goodIn_r _ [4] (by decide +kernel) (by decide +kernel)
set_option maxRecDepth 20000 in
theorem gX1_readSentences_X2_isSentence_n47 : GoodIn wsX1_readSentences (wsX2_isSentence) := ggX1_readSentences_X2_isSentence
set_option maxRecDepth 20000 in
theorem ggX1_readSentences_X1_advance : GoodIn wsX1_readSentences wsX1_advance := goodIn_r _ [9, 10, 11, 12, 1, 13, 14, 15, 8, 16, 17, 18, 19, 20, 21, 22, 23, 24, 25, 26, 27, 28, 29, 30, 31, 32, 33, 34, 35, 36, 37, 38] (by decide +kernel) (by decide +kernel)
set_option maxRecDepth 20000 in
theorem gX1_readSentences_X1_advance : GoodIn wsX1_readSentences (wsV RX1 27 RX1 yX1_advance wsX1_advance) := goodIn_app (goodIn_of _ (by decide +kernel)) ggX1_readSentences_X1_advance
theorem dX1_readSentences_0 : decode cX1_readSentences 0 = .ok (.iconst 0, 1) := by decide +kernel
theorem dX1_readSentences_1 : decode cX1_readSentences 1 = .ok (.istore_n 1, 1) := by decide +kernel
theorem dX1_readSentences_2 : decode cX1_readSentences 2 = .ok (.iconst 0, 1) := by decide +kernel
theorem dX1_readSentences_3 : decode cX1_readSentences 3 = .ok (.istore_n 2, 1) := by decide +kernel
theorem dX1_readSentences_4 : decode cX1_readSentences 4 = .ok (.iload_n 2, 1) := by decide +kernel
theorem dX1_readSentences_5 : decode cX1_readSentences 5 = .ok (.sipush 300, 3) := by decide +kernel
theorem dX1_readSentences_8 : decode cX1_readSentences 8 = .ok (.if_icmp .ge 32, 3) := by decide +kernel
theorem dX1_readSentences_11 : decode cX1_readSentences 11 = .ok (.aload_n 0, 1) := by decide +kernel
theorem dX1_readSentences_12 : decode cX1_readSentences 12 = .ok (.getfield 30, 3) := by decide +kernel
theorem dX1_readSentences_15 : decode cX1_readSentences 15 = .ok (.invokestatic 47, 3) := by decide +kernel
theorem dX1_readSentences_18 : decode cX1_readSentences 18 = .ok (.ifCond .eq 22, 3) := by decide +kernel
theorem dX1_readSentences_21 : decode cX1_readSentences 21 = .ok (.iload_n 1, 1) := by decide +kernel
theorem dX1_readSentences_22 : decode cX1_readSentences 22 = .ok (.iconst 1, 1) := by decide +kernel
theorem dX1_readSentences_23 : decode cX1_readSentences 23 = .ok (.aload_n 0, 1) := by decide +kernel
theorem dX1_readSentences_24 : decode cX1_readSentences 24 = .ok (.getfield 30, 3) := by decide +kernel
theorem dX1_readSentences_27 : decode cX1_readSentences 27 = .ok (.ishl, 1) := by decide +kernel
theorem dX1_readSentences_28 : decode cX1_readSentences 28 = .ok (.ior, 1) := by decide +kernel
theorem dX1_readSentences_29 : decode cX1_readSentences 29 = .ok (.istore_n 1, 1) := by decide +kernel
theorem dX1_readSentences_30 : decode cX1_readSentences 30 = .ok (.aload_n 0, 1) := by decide +kernel
theorem dX1_readSentences_31 : decode cX1_readSentences 31 = .ok (.invokevirtual 27, 3) := by decide +kernel
theorem dX1_readSentences_34 : decode cX1_readSentences 34 = .ok (.iinc 2 1, 3) := by decide +kernel
theorem dX1_readSentences_37 : decode cX1_readSentences 37 = .ok (.goto (-33), 3) := by decide +kernel
theorem dX1_readSentences_40 : decode cX1_readSentences 40 = .ok (.iload_n 1, 1) := by decide +kernel
theorem dX1_readSentences_41 : decode cX1_readSentences 41 = .ok (.ireturn, 1) := by decide +kernel
set_option maxRecDepth 20000 in
theorem ggX1_advance_X1_byteAt : GoodIn wsX1_advance wsX1_byteAt := goodIn_r _ [9, 10, 27, 28, 29, 30, 31] (by decide +kernel) (by decide +kernel)
set_option maxRecDepth 20000 in
theorem gX1_advance_X1_byteAt : GoodIn wsX1_advance (wsV RX1 59 RX1 yX1_byteAt wsX1_byteAt) := goodIn_app (goodIn_of _ (by decide +kernel)) ggX1_advance_X1_byteAt
set_option maxRecDepth 20000 in
theorem ggX1_advance_X1_isLetter : GoodIn wsX1_advance wsX1_isLetter := goodIn_r _ [13] (by decide +kernel) (by decide +kernel)
set_option maxRecDepth 20000 in
theorem gX1_advance_X1_isLetter : GoodIn wsX1_advance (va_wsS RX1 66 yX1_isLetter wsX1_isLetter) := goodIn_app (goodIn_of _ (by decide +kernel)) ggX1_advance_X1_isLetter
set_option maxRecDepth 20000 in
theorem ggX1_advance_X1_readWord : GoodIn wsX1_advance wsX1_readWord := goodIn_r _ [17, 1, 2, 4, 5, 6, 7, 8, 9, 10, 11, 12, 13, 18, 19, 20, 21, 22, 23, 24, 25, 26, 27, 28, 29, 30, 31] (by decide +kernel) (by decide +kernel)
set_option maxRecDepth 20000 in
theorem gX1_advance_X1_readWord : GoodIn wsX1_advance (wsV RX1 69 RX1 yX1_readWord wsX1_readWord) := goodIn_app (goodIn_of _ (by decide +kernel)) ggX1_advance_X1_readWord
theorem dX1_advance_0 : decode cX1_advance 0 = .ok (.aload_n 0, 1) := by decide +kernel
theorem dX1_advance_1 : decode cX1_advance 1 = .ok (.getfield 24, 3) := by decide +kernel
theorem dX1_advance_4 : decode cX1_advance 4 = .ok (.aload_n 0, 1) := by decide +kernel
theorem dX1_advance_5 : decode cX1_advance 5 = .ok (.getfield 15, 3) := by decide +kernel
theorem dX1_advance_8 : decode cX1_advance 8 = .ok (.if_icmp .ge 29, 3) := by decide +kernel
theorem dX1_advance_11 : decode cX1_advance 11 = .ok (.aload_n 0, 1) := by decide +kernel
theorem dX1_advance_12 : decode cX1_advance 12 = .ok (.aload_n 0, 1) := by decide +kernel
theorem dX1_advance_13 : decode cX1_advance 13 = .ok (.getfield 24, 3) := by decide +kernel
theorem dX1_advance_16 : decode cX1_advance 16 = .ok (.invokevirtual 59, 3) := by decide +kernel
theorem dX1_advance_19 : decode cX1_advance 19 = .ok (.bipush 32, 2) := by decide +kernel
theorem dX1_advance_21 : decode cX1_advance 21 = .ok (.if_icmp .ne 16, 3) := by decide +kernel
theorem dX1_advance_24 : decode cX1_advance 24 = .ok (.aload_n 0, 1) := by decide +kernel
theorem dX1_advance_25 : decode cX1_advance 25 = .ok (.dup, 1) := by decide +kernel
theorem dX1_advance_26 : decode cX1_advance 26 = .ok (.getfield 24, 3) := by decide +kernel
theorem dX1_advance_29 : decode cX1_advance 29 = .ok (.iconst 1, 1) := by decide +kernel
theorem dX1_advance_30 : decode cX1_advance 30 = .ok (.iadd, 1) := by decide +kernel
theorem dX1_advance_31 : decode cX1_advance 31 = .ok (.putfield 24, 3) := by decide +kernel
theorem dX1_advance_34 : decode cX1_advance 34 = .ok (.goto (-34), 3) := by decide +kernel
theorem dX1_advance_37 : decode cX1_advance 37 = .ok (.aload_n 0, 1) := by decide +kernel
theorem dX1_advance_38 : decode cX1_advance 38 = .ok (.aload_n 0, 1) := by decide +kernel
theorem dX1_advance_39 : decode cX1_advance 39 = .ok (.getfield 24, 3) := by decide +kernel
theorem dX1_advance_42 : decode cX1_advance 42 = .ok (.putfield 63, 3) := by decide +kernel
theorem dX1_advance_45 : decode cX1_advance 45 = .ok (.aload_n 0, 1) := by decide +kernel
theorem dX1_advance_46 : decode cX1_advance 46 = .ok (.getfield 24, 3) := by decide +kernel
theorem dX1_advance_49 : decode cX1_advance 49 = .ok (.aload_n 0, 1) := by decide +kernel
theorem dX1_advance_50 : decode cX1_advance 50 = .ok (.getfield 15, 3) := by decide +kernel
theorem dX1_advance_53 : decode cX1_advance 53 = .ok (.if_icmp .lt 12, 3) := by decide +kernel
theorem dX1_advance_56 : decode cX1_advance 56 = .ok (.aload_n 0, 1) := by decide +kernel
theorem dX1_advance_57 : decode cX1_advance 57 = .ok (.bipush 13, 2) := by decide +kernel
theorem dX1_advance_59 : decode cX1_advance 59 = .ok (.putfield 30, 3) := by decide +kernel
theorem dX1_advance_62 : decode cX1_advance 62 = .ok (.goto 62, 3) := by decide +kernel
theorem dX1_advance_65 : decode cX1_advance 65 = .ok (.aload_n 0, 1) := by decide +kernel
theorem dX1_advance_66 : decode cX1_advance 66 = .ok (.aload_n 0, 1) := by decide +kernel
theorem dX1_advance_67 : decode cX1_advance 67 = .ok (.getfield 24, 3) := by decide +kernel
theorem dX1_advance_70 : decode cX1_advance 70 = .ok (.invokevirtual 59, 3) := by decide +kernel
theorem dX1_advance_73 : decode cX1_advance 73 = .ok (.bipush 59, 2) := by decide +kernel
theorem dX1_advance_75 : decode cX1_advance 75 = .ok (.if_icmp .ne 22, 3) := by decide +kernel
theorem dX1_advance_78 : decode cX1_advance 78 = .ok (.aload_n 0, 1) := by decide +kernel
theorem dX1_advance_79 : decode cX1_advance 79 = .ok (.bipush 12, 2) := by decide +kernel
theorem dX1_advance_81 : decode cX1_advance 81 = .ok (.putfield 30, 3) := by decide +kernel
theorem dX1_advance_84 : decode cX1_advance 84 = .ok (.aload_n 0, 1) := by decide +kernel
theorem dX1_advance_85 : decode cX1_advance 85 = .ok (.dup, 1) := by decide +kernel
theorem dX1_advance_86 : decode cX1_advance 86 = .ok (.getfield 24, 3) := by decide +kernel
theorem dX1_advance_89 : decode cX1_advance 89 = .ok (.iconst 1, 1) := by decide +kernel
theorem dX1_advance_90 : decode cX1_advance 90 = .ok (.iadd, 1) := by decide +kernel
theorem dX1_advance_91 : decode cX1_advance 91 = .ok (.putfield 24, 3) := by decide +kernel
theorem dX1_advance_94 : decode cX1_advance 94 = .ok (.goto 30, 3) := by decide +kernel
theorem dX1_advance_97 : decode cX1_advance 97 = .ok (.aload_n 0, 1) := by decide +kernel
theorem dX1_advance_98 : decode cX1_advance 98 = .ok (.aload_n 0, 1) := by decide +kernel
theorem dX1_advance_99 : decode cX1_advance 99 = .ok (.getfield 24, 3) := by decide +kernel
theorem dX1_advance_102 : decode cX1_advance 102 = .ok (.invokevirtual 59, 3) := by decide +kernel
theorem dX1_advance_105 : decode cX1_advance 105 = .ok (.invokestatic 66, 3) := by decide +kernel
theorem dX1_advance_108 : decode cX1_advance 108 = .ok (.ifCond .eq 10, 3) := by decide +kernel
theorem dX1_advance_111 : decode cX1_advance 111 = .ok (.aload_n 0, 1) := by decide +kernel
theorem dX1_advance_112 : decode cX1_advance 112 = .ok (.invokevirtual 69, 3) := by decide +kernel
theorem dX1_advance_115 : decode cX1_advance 115 = .ok (.goto 9, 3) := by decide +kernel
theorem dX1_advance_118 : decode cX1_advance 118 = .ok (.aload_n 0, 1) := by decide +kernel
theorem dX1_advance_119 : decode cX1_advance 119 = .ok (.bipush 14, 2) := by decide +kernel
theorem dX1_advance_121 : decode cX1_advance 121 = .ok (.putfield 30, 3) := by decide +kernel
theorem dX1_advance_124 : decode cX1_advance 124 = .ok (.return_, 1) := by decide +kernel
set_option maxRecDepth 20000 in
theorem ggX1_readWord_X1_byteAt : GoodIn wsX1_readWord wsX1_byteAt := goodIn_r _ [8, 9, 22, 23, 24, 25, 26] (by decide +kernel) (by decide +kernel)
set_option maxRecDepth 20000 in
theorem gX1_readWord_X1_byteAt : GoodIn wsX1_readWord (wsV RX1 59 RX1 yX1_byteAt wsX1_byteAt) := goodIn_app (goodIn_of _ (by decide +kernel)) ggX1_readWord_X1_byteAt
set_option maxRecDepth 20000 in
theorem ggX1_readWord_X1_isLetter : GoodIn wsX1_readWord wsX1_isLetter := goodIn_r _ [12] (by decide +kernel) (by decide +kernel)
set_option maxRecDepth 20000 in
theorem gX1_readWord_X1_isLetter : GoodIn wsX1_readWord (va_wsS RX1 66 yX1_isLetter wsX1_isLetter) := goodIn_app (goodIn_of _ (by decide +kernel)) ggX1_readWord_X1_isLetter
set_option maxRecDepth 20000 in
theorem ggX1_readWord_X1_tokenOf : GoodIn wsX1_readWord wsX1_tokenOf := goodIn_r _ [15, 16, 17, 18, 19, 20, 21] (by decide +kernel) (by decide +kernel)
set_option maxRecDepth 20000 in
theorem gX1_readWord_X1_tokenOf : GoodIn wsX1_readWord (va_wsS RX1 72 yX1_tokenOf wsX1_tokenOf) := goodIn_app (goodIn_of _ (by decide +kernel)) ggX1_readWord_X1_tokenOf
theorem dX1_readWord_0 : decode cX1_readWord 0 = .ok (.lconst 0, 1) := by decide +kernel
theorem dX1_readWord_1 : decode cX1_readWord 1 = .ok (.lstore_n 1, 1) := by decide +kernel
theorem dX1_readWord_2 : decode cX1_readWord 2 = .ok (.aload_n 0, 1) := by decide +kernel
theorem dX1_readWord_3 : decode cX1_readWord 3 = .ok (.getfield 24, 3) := by decide +kernel
theorem dX1_readWord_6 : decode cX1_readWord 6 = .ok (.aload_n 0, 1) := by decide +kernel
theorem dX1_readWord_7 : decode cX1_readWord 7 = .ok (.getfield 15, 3) := by decide +kernel
theorem dX1_readWord_10 : decode cX1_readWord 10 = .ok (.if_icmp .ge 45, 3) := by decide +kernel
theorem dX1_readWord_13 : decode cX1_readWord 13 = .ok (.aload_n 0, 1) := by decide +kernel
theorem dX1_readWord_14 : decode cX1_readWord 14 = .ok (.aload_n 0, 1) := by decide +kernel
theorem dX1_readWord_15 : decode cX1_readWord 15 = .ok (.getfield 24, 3) := by decide +kernel
theorem dX1_readWord_18 : decode cX1_readWord 18 = .ok (.invokevirtual 59, 3) := by decide +kernel
theorem dX1_readWord_21 : decode cX1_readWord 21 = .ok (.invokestatic 66, 3) := by decide +kernel
theorem dX1_readWord_24 : decode cX1_readWord 24 = .ok (.ifCond .eq 31, 3) := by decide +kernel
theorem dX1_readWord_27 : decode cX1_readWord 27 = .ok (.lload_n 1, 1) := by decide +kernel
theorem dX1_readWord_28 : decode cX1_readWord 28 = .ok (.bipush 8, 2) := by decide +kernel
theorem dX1_readWord_30 : decode cX1_readWord 30 = .ok (.lshl, 1) := by decide +kernel
theorem dX1_readWord_31 : decode cX1_readWord 31 = .ok (.aload_n 0, 1) := by decide +kernel
theorem dX1_readWord_32 : decode cX1_readWord 32 = .ok (.aload_n 0, 1) := by decide +kernel
theorem dX1_readWord_33 : decode cX1_readWord 33 = .ok (.getfield 24, 3) := by decide +kernel
theorem dX1_readWord_36 : decode cX1_readWord 36 = .ok (.invokevirtual 59, 3) := by decide +kernel
theorem dX1_readWord_39 : decode cX1_readWord 39 = .ok (.i2l, 1) := by decide +kernel
theorem dX1_readWord_40 : decode cX1_readWord 40 = .ok (.lor, 1) := by decide +kernel
theorem dX1_readWord_41 : decode cX1_readWord 41 = .ok (.lstore_n 1, 1) := by decide +kernel
theorem dX1_readWord_42 : decode cX1_readWord 42 = .ok (.aload_n 0, 1) := by decide +kernel
theorem dX1_readWord_43 : decode cX1_readWord 43 = .ok (.dup, 1) := by decide +kernel
theorem dX1_readWord_44 : decode cX1_readWord 44 = .ok (.getfield 24, 3) := by decide +kernel
theorem dX1_readWord_47 : decode cX1_readWord 47 = .ok (.iconst 1, 1) := by decide +kernel
theorem dX1_readWord_48 : decode cX1_readWord 48 = .ok (.iadd, 1) := by decide +kernel
theorem dX1_readWord_49 : decode cX1_readWord 49 = .ok (.putfield 24, 3) := by decide +kernel
theorem dX1_readWord_52 : decode cX1_readWord 52 = .ok (.goto (-50), 3) := by decide +kernel
theorem dX1_readWord_55 : decode cX1_readWord 55 = .ok (.aload_n 0, 1) := by decide +kernel
theorem dX1_readWord_56 : decode cX1_readWord 56 = .ok (.lload_n 1, 1) := by decide +kernel
theorem dX1_readWord_57 : decode cX1_readWord 57 = .ok (.invokestatic 72, 3) := by decide +kernel
theorem dX1_readWord_60 : decode cX1_readWord 60 = .ok (.putfield 30, 3) := by decide +kernel
theorem dX1_readWord_63 : decode cX1_readWord 63 = .ok (.return_, 1) := by decide +kernel
theorem dX1_tokenOf_0 : decode cX1_tokenOf 0 = .ok (.lload_n 0, 1) := by decide +kernel
theorem dX1_tokenOf_1 : decode cX1_tokenOf 1 = .ok (.ldc2_w 76, 3) := by decide +kernel
theorem dX1_tokenOf_4 : decode cX1_tokenOf 4 = .ok (.lcmp, 1) := by decide +kernel
theorem dX1_tokenOf_5 : decode cX1_tokenOf 5 = .ok (.ifCond .lt 18, 3) := by decide +kernel
theorem dX1_tokenOf_8 : decode cX1_tokenOf 8 = .ok (.lload_n 0, 1) := by decide +kernel
theorem dX1_tokenOf_9 : decode cX1_tokenOf 9 = .ok (.ldc2_w 78, 3) := by decide +kernel
theorem dX1_tokenOf_12 : decode cX1_tokenOf 12 = .ok (.lcmp, 1) := by decide +kernel
theorem dX1_tokenOf_13 : decode cX1_tokenOf 13 = .ok (.ifCond .ge 10, 3) := by decide +kernel
theorem dX1_tokenOf_16 : decode cX1_tokenOf 16 = .ok (.lload_n 0, 1) := by decide +kernel
theorem dX1_tokenOf_17 : decode cX1_tokenOf 17 = .ok (.ldc2_w 76, 3) := by decide +kernel
theorem dX1_tokenOf_20 : decode cX1_tokenOf 20 = .ok (.lsub, 1) := by decide +kernel
theorem dX1_tokenOf_21 : decode cX1_tokenOf 21 = .ok (.l2i, 1) := by decide +kernel
theorem dX1_tokenOf_22 : decode cX1_tokenOf 22 = .ok (.ireturn, 1) := by decide +kernel
theorem dX1_tokenOf_23 : decode cX1_tokenOf 23 = .ok (.lload_n 0, 1) := by decide +kernel
theorem dX1_tokenOf_24 : decode cX1_tokenOf 24 = .ok (.ldc2_w 80, 3) := by decide +kernel
theorem dX1_tokenOf_27 : decode cX1_tokenOf 27 = .ok (.lcmp, 1) := by decide +kernel
theorem dX1_tokenOf_28 : decode cX1_tokenOf 28 = .ok (.ifCond .ne 6, 3) := by decide +kernel
theorem dX1_tokenOf_31 : decode cX1_tokenOf 31 = .ok (.bipush 8, 2) := by decide +kernel
theorem dX1_tokenOf_33 : decode cX1_tokenOf 33 = .ok (.ireturn, 1) := by decide +kernel
theorem dX1_tokenOf_34 : decode cX1_tokenOf 34 = .ok (.lload_n 0, 1) := by decide +kernel
theorem dX1_tokenOf_35 : decode cX1_tokenOf 35 = .ok (.ldc2_w 82, 3) := by decide +kernel
theorem dX1_tokenOf_38 : decode cX1_tokenOf 38 = .ok (.lcmp, 1) := by decide +kernel
theorem dX1_tokenOf_39 : decode cX1_tokenOf 39 = .ok (.ifCond .ne 6, 3) := by decide +kernel
theorem dX1_tokenOf_42 : decode cX1_tokenOf 42 = .ok (.bipush 9, 2) := by decide +kernel
theorem dX1_tokenOf_44 : decode cX1_tokenOf 44 = .ok (.ireturn, 1) := by decide +kernel
theorem dX1_tokenOf_45 : decode cX1_tokenOf 45 = .ok (.lload_n 0, 1) := by decide +kernel
theorem dX1_tokenOf_46 : decode cX1_tokenOf 46 = .ok (.ldc2_w 84, 3) := by decide +kernel
theorem dX1_tokenOf_49 : decode cX1_tokenOf 49 = .ok (.lcmp, 1) := by decide +kernel
theorem dX1_tokenOf_50 : decode cX1_tokenOf 50 = .ok (.ifCond .ne 6, 3) := by decide +kernel
theorem dX1_tokenOf_53 : decode cX1_tokenOf 53 = .ok (.bipush 10, 2) := by decide +kernel
theorem dX1_tokenOf_55 : decode cX1_tokenOf 55 = .ok (.ireturn, 1) := by decide +kernel
theorem dX1_tokenOf_56 : decode cX1_tokenOf 56 = .ok (.lload_n 0, 1) := by decide +kernel
theorem dX1_tokenOf_57 : decode cX1_tokenOf 57 = .ok (.ldc2_w 86, 3) := by decide +kernel
theorem dX1_tokenOf_60 : decode cX1_tokenOf 60 = .ok (.lcmp, 1) := by decide +kernel
theorem dX1_tokenOf_61 : decode cX1_tokenOf 61 = .ok (.ifCond .ne 8, 3) := by decide +kernel
theorem dX1_tokenOf_64 : decode cX1_tokenOf 64 = .ok (.bipush 11, 2) := by decide +kernel
theorem dX1_tokenOf_66 : decode cX1_tokenOf 66 = .ok (.goto 5, 3) := by decide +kernel
theorem dX1_tokenOf_69 : decode cX1_tokenOf 69 = .ok (.bipush 14, 2) := by decide +kernel
theorem dX1_tokenOf_71 : decode cX1_tokenOf 71 = .ok (.ireturn, 1) := by decide +kernel
theorem dX1_byteAt_0 : decode cX1_byteAt 0 = .ok (.iload_n 1, 1) := by decide +kernel
theorem dX1_byteAt_1 : decode cX1_byteAt 1 = .ok (.ifCond .lt 23, 3) := by decide +kernel
theorem dX1_byteAt_4 : decode cX1_byteAt 4 = .ok (.iload_n 1, 1) := by decide +kernel
theorem dX1_byteAt_5 : decode cX1_byteAt 5 = .ok (.sipush 300, 3) := by decide +kernel
theorem dX1_byteAt_8 : decode cX1_byteAt 8 = .ok (.if_icmp .ge 16, 3) := by decide +kernel
theorem dX1_byteAt_11 : decode cX1_byteAt 11 = .ok (.aload_n 0, 1) := by decide +kernel
theorem dX1_byteAt_12 : decode cX1_byteAt 12 = .ok (.getfield 9, 3) := by decide +kernel
theorem dX1_byteAt_15 : decode cX1_byteAt 15 = .ok (.iload_n 1, 1) := by decide +kernel
theorem dX1_byteAt_16 : decode cX1_byteAt 16 = .ok (.baload, 1) := by decide +kernel
theorem dX1_byteAt_17 : decode cX1_byteAt 17 = .ok (.sipush 255, 3) := by decide +kernel
theorem dX1_byteAt_20 : decode cX1_byteAt 20 = .ok (.iand, 1) := by decide +kernel
theorem dX1_byteAt_21 : decode cX1_byteAt 21 = .ok (.goto 4, 3) := by decide +kernel
theorem dX1_byteAt_24 : decode cX1_byteAt 24 = .ok (.iconst 0, 1) := by decide +kernel
theorem dX1_byteAt_25 : decode cX1_byteAt 25 = .ok (.ireturn, 1) := by decide +kernel
theorem dX1_isLetter_0 : decode cX1_isLetter 0 = .ok (.iload_n 0, 1) := by decide +kernel
theorem dX1_isLetter_1 : decode cX1_isLetter 1 = .ok (.bipush 97, 2) := by decide +kernel
theorem dX1_isLetter_3 : decode cX1_isLetter 3 = .ok (.if_icmp .lt 13, 3) := by decide +kernel
theorem dX1_isLetter_6 : decode cX1_isLetter 6 = .ok (.iload_n 0, 1) := by decide +kernel
theorem dX1_isLetter_7 : decode cX1_isLetter 7 = .ok (.bipush 122, 2) := by decide +kernel
theorem dX1_isLetter_9 : decode cX1_isLetter 9 = .ok (.if_icmp .gt 7, 3) := by decide +kernel
theorem dX1_isLetter_12 : decode cX1_isLetter 12 = .ok (.iconst 1, 1) := by decide +kernel
theorem dX1_isLetter_13 : decode cX1_isLetter 13 = .ok (.goto 4, 3) := by decide +kernel
theorem dX1_isLetter_16 : decode cX1_isLetter 16 = .ok (.iconst 0, 1) := by decide +kernel
theorem dX1_isLetter_17 : decode cX1_isLetter 17 = .ok (.ireturn, 1) := by decide +kernel
