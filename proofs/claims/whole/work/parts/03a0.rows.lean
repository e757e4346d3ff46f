theorem dX0_init_0 : decode cX0_init 0 = .ok (.aload_n 0, 1) := by decide +kernel
theorem dX0_init_1 : decode cX0_init 1 = .ok (.invokespecial 3, 3) := by decide +kernel
theorem dX0_init_4 : decode cX0_init 4 = .ok (.aload_n 0, 1) := by decide +kernel
theorem dX0_init_5 : decode cX0_init 5 = .ok (.bipush 10, 2) := by decide +kernel
theorem dX0_init_7 : decode cX0_init 7 = .ok (.newarray .int, 2) := by decide +kernel
theorem dX0_init_9 : decode cX0_init 9 = .ok (.putfield 9, 3) := by decide +kernel
theorem dX0_init_12 : decode cX0_init 12 = .ok (.aload_n 0, 1) := by decide +kernel
theorem dX0_init_13 : decode cX0_init 13 = .ok (.bipush 10, 2) := by decide +kernel
theorem dX0_init_15 : decode cX0_init 15 = .ok (.newarray .int, 2) := by decide +kernel
theorem dX0_init_17 : decode cX0_init 17 = .ok (.putfield 15, 3) := by decide +kernel
theorem dX0_init_20 : decode cX0_init 20 = .ok (.aload_n 0, 1) := by decide +kernel
theorem dX0_init_21 : decode cX0_init 21 = .ok (.bipush 10, 2) := by decide +kernel
theorem dX0_init_23 : decode cX0_init 23 = .ok (.newarray .int, 2) := by decide +kernel
theorem dX0_init_25 : decode cX0_init 25 = .ok (.putfield 18, 3) := by decide +kernel
theorem dX0_init_28 : decode cX0_init 28 = .ok (.return_, 1) := by decide +kernel
theorem dX0_forgetAll_0 : decode cX0_forgetAll 0 = .ok (.aload_n 0, 1) := by decide +kernel
theorem dX0_forgetAll_1 : decode cX0_forgetAll 1 = .ok (.iconst 0, 1) := by decide +kernel
theorem dX0_forgetAll_2 : decode cX0_forgetAll 2 = .ok (.putfield 21, 3) := by decide +kernel
theorem dX0_forgetAll_5 : decode cX0_forgetAll 5 = .ok (.aload_n 0, 1) := by decide +kernel
theorem dX0_forgetAll_6 : decode cX0_forgetAll 6 = .ok (.iconst 0, 1) := by decide +kernel
theorem dX0_forgetAll_7 : decode cX0_forgetAll 7 = .ok (.putfield 25, 3) := by decide +kernel
theorem dX0_forgetAll_10 : decode cX0_forgetAll 10 = .ok (.return_, 1) := by decide +kernel
theorem dX0_hasRoom_0 : decode cX0_hasRoom 0 = .ok (.aload_n 0, 1) := by decide +kernel
theorem dX0_hasRoom_1 : decode cX0_hasRoom 1 = .ok (.getfield 21, 3) := by decide +kernel
theorem dX0_hasRoom_4 : decode cX0_hasRoom 4 = .ok (.bipush 10, 2) := by decide +kernel
theorem dX0_hasRoom_6 : decode cX0_hasRoom 6 = .ok (.if_icmp .ge 7, 3) := by decide +kernel
theorem dX0_hasRoom_9 : decode cX0_hasRoom 9 = .ok (.iconst 1, 1) := by decide +kernel
theorem dX0_hasRoom_10 : decode cX0_hasRoom 10 = .ok (.goto 4, 3) := by decide +kernel
theorem dX0_hasRoom_13 : decode cX0_hasRoom 13 = .ok (.iconst 0, 1) := by decide +kernel
theorem dX0_hasRoom_14 : decode cX0_hasRoom 14 = .ok (.ireturn, 1) := by decide +kernel
set_option maxRecDepth 20000 in
theorem ggX0_add_X0_hasRoom : GoodIn wsX0_add wsX0_hasRoom := goodIn_r _ [9, 2, 10, 11, 12, 13, 14] (by decide +kernel) (by decide +kernel)
set_option maxRecDepth 20000 in
theorem gX0_add_X0_hasRoom : GoodIn wsX0_add (wsV RX0 28 RX0 yX0_hasRoom wsX0_hasRoom) := goodIn_app (goodIn_of _ (by decide +kernel)) ggX0_add_X0_hasRoom
theorem dX0_add_0 : decode cX0_add 0 = .ok (.aload_n 0, 1) := by decide +kernel
theorem dX0_add_1 : decode cX0_add 1 = .ok (.invokevirtual 28, 3) := by decide +kernel
theorem dX0_add_4 : decode cX0_add 4 = .ok (.ifCond .eq 43, 3) := by decide +kernel
theorem dX0_add_7 : decode cX0_add 7 = .ok (.aload_n 0, 1) := by decide +kernel
theorem dX0_add_8 : decode cX0_add 8 = .ok (.getfield 9, 3) := by decide +kernel
theorem dX0_add_11 : decode cX0_add 11 = .ok (.aload_n 0, 1) := by decide +kernel
theorem dX0_add_12 : decode cX0_add 12 = .ok (.getfield 21, 3) := by decide +kernel
theorem dX0_add_15 : decode cX0_add 15 = .ok (.iload_n 1, 1) := by decide +kernel
theorem dX0_add_16 : decode cX0_add 16 = .ok (.iastore, 1) := by decide +kernel
theorem dX0_add_17 : decode cX0_add 17 = .ok (.aload_n 0, 1) := by decide +kernel
theorem dX0_add_18 : decode cX0_add 18 = .ok (.getfield 15, 3) := by decide +kernel
theorem dX0_add_21 : decode cX0_add 21 = .ok (.aload_n 0, 1) := by decide +kernel
theorem dX0_add_22 : decode cX0_add 22 = .ok (.getfield 21, 3) := by decide +kernel
theorem dX0_add_25 : decode cX0_add 25 = .ok (.iload_n 2, 1) := by decide +kernel
theorem dX0_add_26 : decode cX0_add 26 = .ok (.iastore, 1) := by decide +kernel
theorem dX0_add_27 : decode cX0_add 27 = .ok (.aload_n 0, 1) := by decide +kernel
theorem dX0_add_28 : decode cX0_add 28 = .ok (.getfield 18, 3) := by decide +kernel
theorem dX0_add_31 : decode cX0_add 31 = .ok (.aload_n 0, 1) := by decide +kernel
theorem dX0_add_32 : decode cX0_add 32 = .ok (.getfield 21, 3) := by decide +kernel
theorem dX0_add_35 : decode cX0_add 35 = .ok (.iload_n 3, 1) := by decide +kernel
theorem dX0_add_36 : decode cX0_add 36 = .ok (.iastore, 1) := by decide +kernel
theorem dX0_add_37 : decode cX0_add 37 = .ok (.aload_n 0, 1) := by decide +kernel
theorem dX0_add_38 : decode cX0_add 38 = .ok (.dup, 1) := by decide +kernel
theorem dX0_add_39 : decode cX0_add 39 = .ok (.getfield 21, 3) := by decide +kernel
theorem dX0_add_42 : decode cX0_add 42 = .ok (.iconst 1, 1) := by decide +kernel
theorem dX0_add_43 : decode cX0_add 43 = .ok (.iadd, 1) := by decide +kernel
theorem dX0_add_44 : decode cX0_add 44 = .ok (.putfield 21, 3) := by decide +kernel
theorem dX0_add_47 : decode cX0_add 47 = .ok (.return_, 1) := by decide +kernel
theorem dX0_bodyHolds_0 : decode cX0_bodyHolds 0 = .ok (.aload_n 0, 1) := by decide +kernel
theorem dX0_bodyHolds_1 : decode cX0_bodyHolds 1 = .ok (.getfield 15, 3) := by decide +kernel
theorem dX0_bodyHolds_4 : decode cX0_bodyHolds 4 = .ok (.iload_n 1, 1) := by decide +kernel
theorem dX0_bodyHolds_5 : decode cX0_bodyHolds 5 = .ok (.iaload, 1) := by decide +kernel
theorem dX0_bodyHolds_6 : decode cX0_bodyHolds 6 = .ok (.iload_n 2, 1) := by decide +kernel
theorem dX0_bodyHolds_7 : decode cX0_bodyHolds 7 = .ok (.iconst (-1), 1) := by decide +kernel
theorem dX0_bodyHolds_8 : decode cX0_bodyHolds 8 = .ok (.ixor, 1) := by decide +kernel
theorem dX0_bodyHolds_9 : decode cX0_bodyHolds 9 = .ok (.iand, 1) := by decide +kernel
theorem dX0_bodyHolds_10 : decode cX0_bodyHolds 10 = .ok (.ifCond .ne 18, 3) := by decide +kernel
theorem dX0_bodyHolds_13 : decode cX0_bodyHolds 13 = .ok (.aload_n 0, 1) := by decide +kernel
theorem dX0_bodyHolds_14 : decode cX0_bodyHolds 14 = .ok (.getfield 18, 3) := by decide +kernel
theorem dX0_bodyHolds_17 : decode cX0_bodyHolds 17 = .ok (.iload_n 1, 1) := by decide +kernel
theorem dX0_bodyHolds_18 : decode cX0_bodyHolds 18 = .ok (.iaload, 1) := by decide +kernel
theorem dX0_bodyHolds_19 : decode cX0_bodyHolds 19 = .ok (.iload_n 3, 1) := by decide +kernel
theorem dX0_bodyHolds_20 : decode cX0_bodyHolds 20 = .ok (.iand, 1) := by decide +kernel
theorem dX0_bodyHolds_21 : decode cX0_bodyHolds 21 = .ok (.ifCond .ne 7, 3) := by decide +kernel
theorem dX0_bodyHolds_24 : decode cX0_bodyHolds 24 = .ok (.iconst 1, 1) := by decide +kernel
theorem dX0_bodyHolds_25 : decode cX0_bodyHolds 25 = .ok (.goto 4, 3) := by decide +kernel
theorem dX0_bodyHolds_28 : decode cX0_bodyHolds 28 = .ok (.iconst 0, 1) := by decide +kernel
theorem dX0_bodyHolds_29 : decode cX0_bodyHolds 29 = .ok (.ireturn, 1) := by decide +kernel
set_option maxRecDepth 20000 in
theorem ggX0_nextRound_X2_bitOf : GoodIn wsX0_nextRound wsX2_bitOf := goodIn_r _ [5] (by decide +kernel) (by decide +kernel)
set_option maxRecDepth 20000 in
theorem gX0_nextRound_X2_bitOf_n32 : GoodIn wsX0_nextRound (wsX2_bitOf) := ggX0_nextRound_X2_bitOf
set_option maxRecDepth 20000 in
theorem ggX0_nextRound_X0_bodyHolds : GoodIn wsX0_nextRound wsX0_bodyHolds := goodIn_r _ [10, 11, 12, 13, 14, 15, 16, 17] (by decide +kernel) (by decide +kernel)
set_option maxRecDepth 20000 in
theorem gX0_nextRound_X0_bodyHolds : GoodIn wsX0_nextRound (wsV RX0 36 RX0 yX0_bodyHolds wsX0_bodyHolds) := goodIn_app (goodIn_of _ (by decide +kernel)) ggX0_nextRound_X0_bodyHolds
theorem dX0_nextRound_0 : decode cX0_nextRound 0 = .ok (.iload_n 1, 1) := by decide +kernel
theorem dX0_nextRound_1 : decode cX0_nextRound 1 = .ok (.istore 4, 2) := by decide +kernel
theorem dX0_nextRound_3 : decode cX0_nextRound 3 = .ok (.iconst 0, 1) := by decide +kernel
theorem dX0_nextRound_4 : decode cX0_nextRound 4 = .ok (.istore 5, 2) := by decide +kernel
theorem dX0_nextRound_6 : decode cX0_nextRound 6 = .ok (.iload 5, 2) := by decide +kernel
theorem dX0_nextRound_8 : decode cX0_nextRound 8 = .ok (.aload_n 0, 1) := by decide +kernel
theorem dX0_nextRound_9 : decode cX0_nextRound 9 = .ok (.getfield 21, 3) := by decide +kernel
theorem dX0_nextRound_12 : decode cX0_nextRound 12 = .ok (.if_icmp .ge 56, 3) := by decide +kernel
theorem dX0_nextRound_15 : decode cX0_nextRound 15 = .ok (.iload_n 2, 1) := by decide +kernel
theorem dX0_nextRound_16 : decode cX0_nextRound 16 = .ok (.iload 5, 2) := by decide +kernel
theorem dX0_nextRound_18 : decode cX0_nextRound 18 = .ok (.invokestatic 32, 3) := by decide +kernel
theorem dX0_nextRound_21 : decode cX0_nextRound 21 = .ok (.iconst 1, 1) := by decide +kernel
theorem dX0_nextRound_22 : decode cX0_nextRound 22 = .ok (.if_icmp .ne 40, 3) := by decide +kernel
theorem dX0_nextRound_25 : decode cX0_nextRound 25 = .ok (.aload_n 0, 1) := by decide +kernel
theorem dX0_nextRound_26 : decode cX0_nextRound 26 = .ok (.getfield 9, 3) := by decide +kernel
theorem dX0_nextRound_29 : decode cX0_nextRound 29 = .ok (.iload 5, 2) := by decide +kernel
theorem dX0_nextRound_31 : decode cX0_nextRound 31 = .ok (.iaload, 1) := by decide +kernel
theorem dX0_nextRound_32 : decode cX0_nextRound 32 = .ok (.bipush 8, 2) := by decide +kernel
theorem dX0_nextRound_34 : decode cX0_nextRound 34 = .ok (.if_icmp .eq 28, 3) := by decide +kernel
theorem dX0_nextRound_37 : decode cX0_nextRound 37 = .ok (.aload_n 0, 1) := by decide +kernel
theorem dX0_nextRound_38 : decode cX0_nextRound 38 = .ok (.iload 5, 2) := by decide +kernel
theorem dX0_nextRound_40 : decode cX0_nextRound 40 = .ok (.iload_n 1, 1) := by decide +kernel
theorem dX0_nextRound_41 : decode cX0_nextRound 41 = .ok (.iload_n 3, 1) := by decide +kernel
theorem dX0_nextRound_42 : decode cX0_nextRound 42 = .ok (.invokevirtual 36, 3) := by decide +kernel
theorem dX0_nextRound_45 : decode cX0_nextRound 45 = .ok (.ifCond .eq 17, 3) := by decide +kernel
theorem dX0_nextRound_48 : decode cX0_nextRound 48 = .ok (.iload 4, 2) := by decide +kernel
theorem dX0_nextRound_50 : decode cX0_nextRound 50 = .ok (.iconst 1, 1) := by decide +kernel
theorem dX0_nextRound_51 : decode cX0_nextRound 51 = .ok (.aload_n 0, 1) := by decide +kernel
theorem dX0_nextRound_52 : decode cX0_nextRound 52 = .ok (.getfield 9, 3) := by decide +kernel
theorem dX0_nextRound_55 : decode cX0_nextRound 55 = .ok (.iload 5, 2) := by decide +kernel
theorem dX0_nextRound_57 : decode cX0_nextRound 57 = .ok (.iaload, 1) := by decide +kernel
theorem dX0_nextRound_58 : decode cX0_nextRound 58 = .ok (.ishl, 1) := by decide +kernel
theorem dX0_nextRound_59 : decode cX0_nextRound 59 = .ok (.ior, 1) := by decide +kernel
theorem dX0_nextRound_60 : decode cX0_nextRound 60 = .ok (.istore 4, 2) := by decide +kernel
theorem dX0_nextRound_62 : decode cX0_nextRound 62 = .ok (.iinc 5 1, 3) := by decide +kernel
theorem dX0_nextRound_65 : decode cX0_nextRound 65 = .ok (.goto (-59), 3) := by decide +kernel
theorem dX0_nextRound_68 : decode cX0_nextRound 68 = .ok (.iload 4, 2) := by decide +kernel
theorem dX0_nextRound_70 : decode cX0_nextRound 70 = .ok (.ireturn, 1) := by decide +kernel
set_option maxRecDepth 20000 in
theorem ggX0_comesOf_X0_nextRound : GoodIn wsX0_comesOf wsX0_nextRound := goodIn_r _ [5, 6, 7, 8, 9, 10, 11, 12, 13, 4, 14, 15, 16, 17, 18, 19, 20, 21] (by decide +kernel) (by decide +kernel)
set_option maxRecDepth 20000 in
theorem gX0_comesOf_X0_nextRound : GoodIn wsX0_comesOf (wsV RX0 40 RX0 yX0_nextRound wsX0_nextRound) := goodIn_app (goodIn_of _ (by decide +kernel)) ggX0_comesOf_X0_nextRound
theorem dX0_comesOf_0 : decode cX0_comesOf 0 = .ok (.iload_n 1, 1) := by decide +kernel
theorem dX0_comesOf_1 : decode cX0_comesOf 1 = .ok (.istore 4, 2) := by decide +kernel
theorem dX0_comesOf_3 : decode cX0_comesOf 3 = .ok (.iconst 0, 1) := by decide +kernel
theorem dX0_comesOf_4 : decode cX0_comesOf 4 = .ok (.istore 5, 2) := by decide +kernel
theorem dX0_comesOf_6 : decode cX0_comesOf 6 = .ok (.iload 5, 2) := by decide +kernel
theorem dX0_comesOf_8 : decode cX0_comesOf 8 = .ok (.bipush 8, 2) := by decide +kernel
theorem dX0_comesOf_10 : decode cX0_comesOf 10 = .ok (.if_icmp .ge 33, 3) := by decide +kernel
theorem dX0_comesOf_13 : decode cX0_comesOf 13 = .ok (.aload_n 0, 1) := by decide +kernel
theorem dX0_comesOf_14 : decode cX0_comesOf 14 = .ok (.iload 4, 2) := by decide +kernel
theorem dX0_comesOf_16 : decode cX0_comesOf 16 = .ok (.iload_n 2, 1) := by decide +kernel
theorem dX0_comesOf_17 : decode cX0_comesOf 17 = .ok (.iload_n 3, 1) := by decide +kernel
theorem dX0_comesOf_18 : decode cX0_comesOf 18 = .ok (.invokevirtual 40, 3) := by decide +kernel
theorem dX0_comesOf_21 : decode cX0_comesOf 21 = .ok (.istore 6, 2) := by decide +kernel
theorem dX0_comesOf_23 : decode cX0_comesOf 23 = .ok (.iload 6, 2) := by decide +kernel
theorem dX0_comesOf_25 : decode cX0_comesOf 25 = .ok (.iload 4, 2) := by decide +kernel
theorem dX0_comesOf_27 : decode cX0_comesOf 27 = .ok (.if_icmp .ne 6, 3) := by decide +kernel
theorem dX0_comesOf_30 : decode cX0_comesOf 30 = .ok (.goto 13, 3) := by decide +kernel
theorem dX0_comesOf_33 : decode cX0_comesOf 33 = .ok (.iload 6, 2) := by decide +kernel
theorem dX0_comesOf_35 : decode cX0_comesOf 35 = .ok (.istore 4, 2) := by decide +kernel
theorem dX0_comesOf_37 : decode cX0_comesOf 37 = .ok (.iinc 5 1, 3) := by decide +kernel
theorem dX0_comesOf_40 : decode cX0_comesOf 40 = .ok (.goto (-34), 3) := by decide +kernel
theorem dX0_comesOf_43 : decode cX0_comesOf 43 = .ok (.iload 4, 2) := by decide +kernel
theorem dX0_comesOf_45 : decode cX0_comesOf 45 = .ok (.ireturn, 1) := by decide +kernel
set_option maxRecDepth 20000 in
theorem ggX0_brokenBy_X2_bitOf : GoodIn wsX0_brokenBy wsX2_bitOf := goodIn_r _ [5] (by decide +kernel) (by decide +kernel)
set_option maxRecDepth 20000 in
theorem gX0_brokenBy_X2_bitOf_n32 : GoodIn wsX0_brokenBy (wsX2_bitOf) := ggX0_brokenBy_X2_bitOf
set_option maxRecDepth 20000 in
theorem ggX0_brokenBy_X0_bodyHolds : GoodIn wsX0_brokenBy wsX0_bodyHolds := goodIn_r _ [10, 11, 12, 13, 14, 15, 16, 17] (by decide +kernel) (by decide +kernel)
set_option maxRecDepth 20000 in
theorem gX0_brokenBy_X0_bodyHolds : GoodIn wsX0_brokenBy (wsV RX0 36 RX0 yX0_bodyHolds wsX0_bodyHolds) := goodIn_app (goodIn_of _ (by decide +kernel)) ggX0_brokenBy_X0_bodyHolds
theorem dX0_brokenBy_0 : decode cX0_brokenBy 0 = .ok (.iconst 0, 1) := by decide +kernel
theorem dX0_brokenBy_1 : decode cX0_brokenBy 1 = .ok (.istore_n 3, 1) := by decide +kernel
theorem dX0_brokenBy_2 : decode cX0_brokenBy 2 = .ok (.iconst 0, 1) := by decide +kernel
theorem dX0_brokenBy_3 : decode cX0_brokenBy 3 = .ok (.istore 4, 2) := by decide +kernel
theorem dX0_brokenBy_5 : decode cX0_brokenBy 5 = .ok (.iload 4, 2) := by decide +kernel
theorem dX0_brokenBy_7 : decode cX0_brokenBy 7 = .ok (.aload_n 0, 1) := by decide +kernel
theorem dX0_brokenBy_8 : decode cX0_brokenBy 8 = .ok (.getfield 21, 3) := by decide +kernel
theorem dX0_brokenBy_11 : decode cX0_brokenBy 11 = .ok (.if_icmp .ge 51, 3) := by decide +kernel
theorem dX0_brokenBy_14 : decode cX0_brokenBy 14 = .ok (.iload_n 2, 1) := by decide +kernel
theorem dX0_brokenBy_15 : decode cX0_brokenBy 15 = .ok (.iload 4, 2) := by decide +kernel
theorem dX0_brokenBy_17 : decode cX0_brokenBy 17 = .ok (.invokestatic 32, 3) := by decide +kernel
theorem dX0_brokenBy_20 : decode cX0_brokenBy 20 = .ok (.iconst 1, 1) := by decide +kernel
theorem dX0_brokenBy_21 : decode cX0_brokenBy 21 = .ok (.if_icmp .ne 35, 3) := by decide +kernel
theorem dX0_brokenBy_24 : decode cX0_brokenBy 24 = .ok (.iload_n 1, 1) := by decide +kernel
theorem dX0_brokenBy_25 : decode cX0_brokenBy 25 = .ok (.aload_n 0, 1) := by decide +kernel
theorem dX0_brokenBy_26 : decode cX0_brokenBy 26 = .ok (.getfield 9, 3) := by decide +kernel
theorem dX0_brokenBy_29 : decode cX0_brokenBy 29 = .ok (.iload 4, 2) := by decide +kernel
theorem dX0_brokenBy_31 : decode cX0_brokenBy 31 = .ok (.iaload, 1) := by decide +kernel
theorem dX0_brokenBy_32 : decode cX0_brokenBy 32 = .ok (.invokestatic 32, 3) := by decide +kernel
theorem dX0_brokenBy_35 : decode cX0_brokenBy 35 = .ok (.ifCond .ne 21, 3) := by decide +kernel
theorem dX0_brokenBy_38 : decode cX0_brokenBy 38 = .ok (.aload_n 0, 1) := by decide +kernel
theorem dX0_brokenBy_39 : decode cX0_brokenBy 39 = .ok (.iload 4, 2) := by decide +kernel
theorem dX0_brokenBy_41 : decode cX0_brokenBy 41 = .ok (.iload_n 1, 1) := by decide +kernel
theorem dX0_brokenBy_42 : decode cX0_brokenBy 42 = .ok (.iload_n 1, 1) := by decide +kernel
theorem dX0_brokenBy_43 : decode cX0_brokenBy 43 = .ok (.invokevirtual 36, 3) := by decide +kernel
theorem dX0_brokenBy_46 : decode cX0_brokenBy 46 = .ok (.ifCond .eq 10, 3) := by decide +kernel
theorem dX0_brokenBy_49 : decode cX0_brokenBy 49 = .ok (.iload_n 3, 1) := by decide +kernel
theorem dX0_brokenBy_50 : decode cX0_brokenBy 50 = .ok (.iconst 1, 1) := by decide +kernel
theorem dX0_brokenBy_51 : decode cX0_brokenBy 51 = .ok (.iload 4, 2) := by decide +kernel
theorem dX0_brokenBy_53 : decode cX0_brokenBy 53 = .ok (.ishl, 1) := by decide +kernel
theorem dX0_brokenBy_54 : decode cX0_brokenBy 54 = .ok (.ior, 1) := by decide +kernel
theorem dX0_brokenBy_55 : decode cX0_brokenBy 55 = .ok (.istore_n 3, 1) := by decide +kernel
theorem dX0_brokenBy_56 : decode cX0_brokenBy 56 = .ok (.iinc 4 1, 3) := by decide +kernel
theorem dX0_brokenBy_59 : decode cX0_brokenBy 59 = .ok (.goto (-54), 3) := by decide +kernel
theorem dX0_brokenBy_62 : decode cX0_brokenBy 62 = .ok (.iload_n 3, 1) := by decide +kernel
theorem dX0_brokenBy_63 : decode cX0_brokenBy 63 = .ok (.ireturn, 1) := by decide +kernel
set_option maxRecDepth 20000 in
theorem ggX0_upholds_X0_brokenBy : GoodIn wsX0_upholds wsX0_brokenBy := goodIn_r _ [6, 7, 8, 9, 10, 11, 12, 13, 14, 5, 15, 16, 17, 26, 27, 28, 29, 30] (by decide +kernel) (by decide +kernel)
set_option maxRecDepth 20000 in
theorem gX0_upholds_X0_brokenBy : GoodIn wsX0_upholds (wsV RX0 44 RX0 yX0_brokenBy wsX0_brokenBy) := goodIn_app (goodIn_of _ (by decide +kernel)) ggX0_upholds_X0_brokenBy
set_option maxRecDepth 20000 in
theorem ggX0_upholds_X0_comesOf : GoodIn wsX0_upholds wsX0_comesOf := goodIn_r _ [21, 22, 23, 24, 5, 25, 7, 8, 9, 10, 11, 12, 13, 14, 15, 16, 17, 26, 27, 28, 29, 30] (by decide +kernel) (by decide +kernel)
set_option maxRecDepth 20000 in
theorem gX0_upholds_X0_comesOf : GoodIn wsX0_upholds (wsV RX0 47 RX0 yX0_comesOf wsX0_comesOf) := goodIn_app (goodIn_of _ (by decide +kernel)) ggX0_upholds_X0_comesOf
theorem dX0_upholds_0 : decode cX0_upholds 0 = .ok (.iload_n 3, 1) := by decide +kernel
theorem dX0_upholds_1 : decode cX0_upholds 1 = .ok (.iload_n 1, 1) := by decide +kernel
theorem dX0_upholds_2 : decode cX0_upholds 2 = .ok (.iconst (-1), 1) := by decide +kernel
theorem dX0_upholds_3 : decode cX0_upholds 3 = .ok (.ixor, 1) := by decide +kernel
theorem dX0_upholds_4 : decode cX0_upholds 4 = .ok (.iand, 1) := by decide +kernel
theorem dX0_upholds_5 : decode cX0_upholds 5 = .ok (.ifCond .ne 34, 3) := by decide +kernel
theorem dX0_upholds_8 : decode cX0_upholds 8 = .ok (.aload_n 0, 1) := by decide +kernel
theorem dX0_upholds_9 : decode cX0_upholds 9 = .ok (.iload_n 1, 1) := by decide +kernel
theorem dX0_upholds_10 : decode cX0_upholds 10 = .ok (.iload_n 2, 1) := by decide +kernel
theorem dX0_upholds_11 : decode cX0_upholds 11 = .ok (.invokevirtual 44, 3) := by decide +kernel
theorem dX0_upholds_14 : decode cX0_upholds 14 = .ok (.ifCond .ne 25, 3) := by decide +kernel
theorem dX0_upholds_17 : decode cX0_upholds 17 = .ok (.aload_n 0, 1) := by decide +kernel
theorem dX0_upholds_18 : decode cX0_upholds 18 = .ok (.iload_n 3, 1) := by decide +kernel
theorem dX0_upholds_19 : decode cX0_upholds 19 = .ok (.aload_n 0, 1) := by decide +kernel
theorem dX0_upholds_20 : decode cX0_upholds 20 = .ok (.getfield 25, 3) := by decide +kernel
theorem dX0_upholds_23 : decode cX0_upholds 23 = .ok (.iload_n 1, 1) := by decide +kernel
theorem dX0_upholds_24 : decode cX0_upholds 24 = .ok (.iand, 1) := by decide +kernel
theorem dX0_upholds_25 : decode cX0_upholds 25 = .ok (.ior, 1) := by decide +kernel
theorem dX0_upholds_26 : decode cX0_upholds 26 = .ok (.iload_n 2, 1) := by decide +kernel
theorem dX0_upholds_27 : decode cX0_upholds 27 = .ok (.iload_n 1, 1) := by decide +kernel
theorem dX0_upholds_28 : decode cX0_upholds 28 = .ok (.invokevirtual 47, 3) := by decide +kernel
theorem dX0_upholds_31 : decode cX0_upholds 31 = .ok (.iload_n 1, 1) := by decide +kernel
theorem dX0_upholds_32 : decode cX0_upholds 32 = .ok (.if_icmp .ne 7, 3) := by decide +kernel
theorem dX0_upholds_35 : decode cX0_upholds 35 = .ok (.iconst 1, 1) := by decide +kernel
theorem dX0_upholds_36 : decode cX0_upholds 36 = .ok (.goto 4, 3) := by decide +kernel
theorem dX0_upholds_39 : decode cX0_upholds 39 = .ok (.iconst 0, 1) := by decide +kernel
theorem dX0_upholds_40 : decode cX0_upholds 40 = .ok (.ireturn, 1) := by decide +kernel
set_option maxRecDepth 20000 in
theorem ggX0_firstRuleBringing_X2_bitOf : GoodIn wsX0_firstRuleBringing wsX2_bitOf := goodIn_r _ [5] (by decide +kernel) (by decide +kernel)
set_option maxRecDepth 20000 in
theorem gX0_firstRuleBringing_X2_bitOf_n32 : GoodIn wsX0_firstRuleBringing (wsX2_bitOf) := ggX0_firstRuleBringing_X2_bitOf
set_option maxRecDepth 20000 in
theorem ggX0_firstRuleBringing_X0_bodyHolds : GoodIn wsX0_firstRuleBringing wsX0_bodyHolds := goodIn_r _ [10, 11, 12, 13, 14, 15, 16, 17] (by decide +kernel) (by decide +kernel)
set_option maxRecDepth 20000 in
theorem gX0_firstRuleBringing_X0_bodyHolds : GoodIn wsX0_firstRuleBringing (wsV RX0 36 RX0 yX0_bodyHolds wsX0_bodyHolds) := goodIn_app (goodIn_of _ (by decide +kernel)) ggX0_firstRuleBringing_X0_bodyHolds
theorem dX0_firstRuleBringing_0 : decode cX0_firstRuleBringing 0 = .ok (.iconst 0, 1) := by decide +kernel
theorem dX0_firstRuleBringing_1 : decode cX0_firstRuleBringing 1 = .ok (.istore 5, 2) := by decide +kernel
theorem dX0_firstRuleBringing_3 : decode cX0_firstRuleBringing 3 = .ok (.iload 5, 2) := by decide +kernel
theorem dX0_firstRuleBringing_5 : decode cX0_firstRuleBringing 5 = .ok (.aload_n 0, 1) := by decide +kernel
theorem dX0_firstRuleBringing_6 : decode cX0_firstRuleBringing 6 = .ok (.getfield 21, 3) := by decide +kernel
theorem dX0_firstRuleBringing_9 : decode cX0_firstRuleBringing 9 = .ok (.if_icmp .ge 45, 3) := by decide +kernel
theorem dX0_firstRuleBringing_12 : decode cX0_firstRuleBringing 12 = .ok (.iload_n 3, 1) := by decide +kernel
theorem dX0_firstRuleBringing_13 : decode cX0_firstRuleBringing 13 = .ok (.iload 5, 2) := by decide +kernel
theorem dX0_firstRuleBringing_15 : decode cX0_firstRuleBringing 15 = .ok (.invokestatic 32, 3) := by decide +kernel
theorem dX0_firstRuleBringing_18 : decode cX0_firstRuleBringing 18 = .ok (.iconst 1, 1) := by decide +kernel
theorem dX0_firstRuleBringing_19 : decode cX0_firstRuleBringing 19 = .ok (.if_icmp .ne 29, 3) := by decide +kernel
theorem dX0_firstRuleBringing_22 : decode cX0_firstRuleBringing 22 = .ok (.aload_n 0, 1) := by decide +kernel
theorem dX0_firstRuleBringing_23 : decode cX0_firstRuleBringing 23 = .ok (.getfield 9, 3) := by decide +kernel
theorem dX0_firstRuleBringing_26 : decode cX0_firstRuleBringing 26 = .ok (.iload 5, 2) := by decide +kernel
theorem dX0_firstRuleBringing_28 : decode cX0_firstRuleBringing 28 = .ok (.iaload, 1) := by decide +kernel
theorem dX0_firstRuleBringing_29 : decode cX0_firstRuleBringing 29 = .ok (.iload_n 1, 1) := by decide +kernel
theorem dX0_firstRuleBringing_30 : decode cX0_firstRuleBringing 30 = .ok (.if_icmp .ne 18, 3) := by decide +kernel
theorem dX0_firstRuleBringing_33 : decode cX0_firstRuleBringing 33 = .ok (.aload_n 0, 1) := by decide +kernel
theorem dX0_firstRuleBringing_34 : decode cX0_firstRuleBringing 34 = .ok (.iload 5, 2) := by decide +kernel
theorem dX0_firstRuleBringing_36 : decode cX0_firstRuleBringing 36 = .ok (.iload_n 2, 1) := by decide +kernel
theorem dX0_firstRuleBringing_37 : decode cX0_firstRuleBringing 37 = .ok (.iload 4, 2) := by decide +kernel
theorem dX0_firstRuleBringing_39 : decode cX0_firstRuleBringing 39 = .ok (.invokevirtual 36, 3) := by decide +kernel
theorem dX0_firstRuleBringing_42 : decode cX0_firstRuleBringing 42 = .ok (.ifCond .eq 6, 3) := by decide +kernel
theorem dX0_firstRuleBringing_45 : decode cX0_firstRuleBringing 45 = .ok (.iload 5, 2) := by decide +kernel
theorem dX0_firstRuleBringing_47 : decode cX0_firstRuleBringing 47 = .ok (.ireturn, 1) := by decide +kernel
theorem dX0_firstRuleBringing_48 : decode cX0_firstRuleBringing 48 = .ok (.iinc 5 1, 3) := by decide +kernel
theorem dX0_firstRuleBringing_51 : decode cX0_firstRuleBringing 51 = .ok (.goto (-48), 3) := by decide +kernel
theorem dX0_firstRuleBringing_54 : decode cX0_firstRuleBringing 54 = .ok (.bipush (-9), 2) := by decide +kernel
theorem dX0_firstRuleBringing_56 : decode cX0_firstRuleBringing 56 = .ok (.ireturn, 1) := by decide +kernel
set_option maxRecDepth 20000 in
theorem ggX0_ifsUnder_X0_partUnder : GoodIn wsX0_ifsUnder wsX0_partUnder := goodIn_r _ [6, 7, 8, 9, 10, 11, 12, 13, 14, 15, 16] (by decide +kernel) (by decide +kernel)
set_option maxRecDepth 20000 in
theorem gX0_ifsUnder_X0_partUnder : GoodIn wsX0_ifsUnder (wsV RX0 50 RX0 yX0_partUnder wsX0_partUnder) := goodIn_app (goodIn_of _ (by decide +kernel)) ggX0_ifsUnder_X0_partUnder
theorem dX0_ifsUnder_0 : decode cX0_ifsUnder 0 = .ok (.aload_n 0, 1) := by decide +kernel
theorem dX0_ifsUnder_1 : decode cX0_ifsUnder 1 = .ok (.aload_n 0, 1) := by decide +kernel
theorem dX0_ifsUnder_2 : decode cX0_ifsUnder 2 = .ok (.getfield 15, 3) := by decide +kernel
theorem dX0_ifsUnder_5 : decode cX0_ifsUnder 5 = .ok (.iload_n 1, 1) := by decide +kernel
theorem dX0_ifsUnder_6 : decode cX0_ifsUnder 6 = .ok (.iload_n 2, 1) := by decide +kernel
theorem dX0_ifsUnder_7 : decode cX0_ifsUnder 7 = .ok (.invokevirtual 50, 3) := by decide +kernel
theorem dX0_ifsUnder_10 : decode cX0_ifsUnder 10 = .ok (.ireturn, 1) := by decide +kernel
set_option maxRecDepth 20000 in
theorem ggX0_unlessUnder_X0_partUnder : GoodIn wsX0_unlessUnder wsX0_partUnder := goodIn_r _ [6, 7, 8, 9, 10, 11, 12, 13, 14, 15, 16] (by decide +kernel) (by decide +kernel)
set_option maxRecDepth 20000 in
theorem gX0_unlessUnder_X0_partUnder : GoodIn wsX0_unlessUnder (wsV RX0 50 RX0 yX0_partUnder wsX0_partUnder) := goodIn_app (goodIn_of _ (by decide +kernel)) ggX0_unlessUnder_X0_partUnder
theorem dX0_unlessUnder_0 : decode cX0_unlessUnder 0 = .ok (.aload_n 0, 1) := by decide +kernel
theorem dX0_unlessUnder_1 : decode cX0_unlessUnder 1 = .ok (.aload_n 0, 1) := by decide +kernel
theorem dX0_unlessUnder_2 : decode cX0_unlessUnder 2 = .ok (.getfield 18, 3) := by decide +kernel
theorem dX0_unlessUnder_5 : decode cX0_unlessUnder 5 = .ok (.iload_n 1, 1) := by decide +kernel
theorem dX0_unlessUnder_6 : decode cX0_unlessUnder 6 = .ok (.iload_n 2, 1) := by decide +kernel
theorem dX0_unlessUnder_7 : decode cX0_unlessUnder 7 = .ok (.invokevirtual 50, 3) := by decide +kernel
theorem dX0_unlessUnder_10 : decode cX0_unlessUnder 10 = .ok (.ireturn, 1) := by decide +kernel
set_option maxRecDepth 20000 in
theorem ggX0_partUnder_X2_bitOf : GoodIn wsX0_partUnder wsX2_bitOf := goodIn_r _ [5] (by decide +kernel) (by decide +kernel)
set_option maxRecDepth 20000 in
theorem gX0_partUnder_X2_bitOf_n32 : GoodIn wsX0_partUnder (wsX2_bitOf) := ggX0_partUnder_X2_bitOf
theorem dX0_partUnder_0 : decode cX0_partUnder 0 = .ok (.iconst 0, 1) := by decide +kernel
theorem dX0_partUnder_1 : decode cX0_partUnder 1 = .ok (.istore 4, 2) := by decide +kernel
theorem dX0_partUnder_3 : decode cX0_partUnder 3 = .ok (.iconst 0, 1) := by decide +kernel
theorem dX0_partUnder_4 : decode cX0_partUnder 4 = .ok (.istore 5, 2) := by decide +kernel
theorem dX0_partUnder_6 : decode cX0_partUnder 6 = .ok (.iload 5, 2) := by decide +kernel
theorem dX0_partUnder_8 : decode cX0_partUnder 8 = .ok (.aload_n 0, 1) := by decide +kernel
theorem dX0_partUnder_9 : decode cX0_partUnder 9 = .ok (.getfield 21, 3) := by decide +kernel
theorem dX0_partUnder_12 : decode cX0_partUnder 12 = .ok (.if_icmp .ge 43, 3) := by decide +kernel
theorem dX0_partUnder_15 : decode cX0_partUnder 15 = .ok (.iload_n 3, 1) := by decide +kernel
theorem dX0_partUnder_16 : decode cX0_partUnder 16 = .ok (.iload 5, 2) := by decide +kernel
theorem dX0_partUnder_18 : decode cX0_partUnder 18 = .ok (.invokestatic 32, 3) := by decide +kernel
theorem dX0_partUnder_21 : decode cX0_partUnder 21 = .ok (.iconst 1, 1) := by decide +kernel
theorem dX0_partUnder_22 : decode cX0_partUnder 22 = .ok (.if_icmp .ne 27, 3) := by decide +kernel
theorem dX0_partUnder_25 : decode cX0_partUnder 25 = .ok (.iload_n 2, 1) := by decide +kernel
theorem dX0_partUnder_26 : decode cX0_partUnder 26 = .ok (.aload_n 0, 1) := by decide +kernel
theorem dX0_partUnder_27 : decode cX0_partUnder 27 = .ok (.getfield 9, 3) := by decide +kernel
theorem dX0_partUnder_30 : decode cX0_partUnder 30 = .ok (.iload 5, 2) := by decide +kernel
theorem dX0_partUnder_32 : decode cX0_partUnder 32 = .ok (.iaload, 1) := by decide +kernel
theorem dX0_partUnder_33 : decode cX0_partUnder 33 = .ok (.invokestatic 32, 3) := by decide +kernel
theorem dX0_partUnder_36 : decode cX0_partUnder 36 = .ok (.iconst 1, 1) := by decide +kernel
theorem dX0_partUnder_37 : decode cX0_partUnder 37 = .ok (.if_icmp .ne 12, 3) := by decide +kernel
theorem dX0_partUnder_40 : decode cX0_partUnder 40 = .ok (.iload 4, 2) := by decide +kernel
theorem dX0_partUnder_42 : decode cX0_partUnder 42 = .ok (.aload_n 1, 1) := by decide +kernel
theorem dX0_partUnder_43 : decode cX0_partUnder 43 = .ok (.iload 5, 2) := by decide +kernel
theorem dX0_partUnder_45 : decode cX0_partUnder 45 = .ok (.iaload, 1) := by decide +kernel
theorem dX0_partUnder_46 : decode cX0_partUnder 46 = .ok (.ior, 1) := by decide +kernel
theorem dX0_partUnder_47 : decode cX0_partUnder 47 = .ok (.istore 4, 2) := by decide +kernel
theorem dX0_partUnder_49 : decode cX0_partUnder 49 = .ok (.iinc 5 1, 3) := by decide +kernel
theorem dX0_partUnder_52 : decode cX0_partUnder 52 = .ok (.goto (-46), 3) := by decide +kernel
theorem dX0_partUnder_55 : decode cX0_partUnder 55 = .ok (.iload 4, 2) := by decide +kernel
theorem dX0_partUnder_57 : decode cX0_partUnder 57 = .ok (.ireturn, 1) := by decide +kernel
set_option maxRecDepth 20000 in
theorem ggX0_hangsByIf_X0_ifsUnder : GoodIn wsX0_hangsByIf wsX0_ifsUnder := goodIn_r _ [5, 6, 7, 8, 9, 4, 10, 11, 12, 13, 14, 15, 16, 17, 18, 19, 20] (by decide +kernel) (by decide +kernel)
set_option maxRecDepth 20000 in
theorem gX0_hangsByIf_X0_ifsUnder : GoodIn wsX0_hangsByIf (wsV RX0 54 RX0 yX0_ifsUnder wsX0_ifsUnder) := goodIn_app (goodIn_of _ (by decide +kernel)) ggX0_hangsByIf_X0_ifsUnder
set_option maxRecDepth 20000 in
theorem ggX0_hangsByIf_X2_bitOf : GoodIn wsX0_hangsByIf wsX2_bitOf := goodIn_r _ [15] (by decide +kernel) (by decide +kernel)
set_option maxRecDepth 20000 in
theorem gX0_hangsByIf_X2_bitOf_n32 : GoodIn wsX0_hangsByIf (wsX2_bitOf) := ggX0_hangsByIf_X2_bitOf
theorem dX0_hangsByIf_0 : decode cX0_hangsByIf 0 = .ok (.aload_n 0, 1) := by decide +kernel
theorem dX0_hangsByIf_1 : decode cX0_hangsByIf 1 = .ok (.iconst 1, 1) := by decide +kernel
theorem dX0_hangsByIf_2 : decode cX0_hangsByIf 2 = .ok (.iload_n 1, 1) := by decide +kernel
theorem dX0_hangsByIf_3 : decode cX0_hangsByIf 3 = .ok (.ishl, 1) := by decide +kernel
theorem dX0_hangsByIf_4 : decode cX0_hangsByIf 4 = .ok (.iload_n 2, 1) := by decide +kernel
theorem dX0_hangsByIf_5 : decode cX0_hangsByIf 5 = .ok (.invokevirtual 54, 3) := by decide +kernel
theorem dX0_hangsByIf_8 : decode cX0_hangsByIf 8 = .ok (.istore_n 3, 1) := by decide +kernel
theorem dX0_hangsByIf_9 : decode cX0_hangsByIf 9 = .ok (.iconst 0, 1) := by decide +kernel
theorem dX0_hangsByIf_10 : decode cX0_hangsByIf 10 = .ok (.istore 4, 2) := by decide +kernel
theorem dX0_hangsByIf_12 : decode cX0_hangsByIf 12 = .ok (.iload 4, 2) := by decide +kernel
theorem dX0_hangsByIf_14 : decode cX0_hangsByIf 14 = .ok (.bipush 8, 2) := by decide +kernel
theorem dX0_hangsByIf_16 : decode cX0_hangsByIf 16 = .ok (.if_icmp .ge 18, 3) := by decide +kernel
theorem dX0_hangsByIf_19 : decode cX0_hangsByIf 19 = .ok (.iload_n 3, 1) := by decide +kernel
theorem dX0_hangsByIf_20 : decode cX0_hangsByIf 20 = .ok (.aload_n 0, 1) := by decide +kernel
theorem dX0_hangsByIf_21 : decode cX0_hangsByIf 21 = .ok (.iload_n 3, 1) := by decide +kernel
theorem dX0_hangsByIf_22 : decode cX0_hangsByIf 22 = .ok (.iload_n 2, 1) := by decide +kernel
theorem dX0_hangsByIf_23 : decode cX0_hangsByIf 23 = .ok (.invokevirtual 54, 3) := by decide +kernel
theorem dX0_hangsByIf_26 : decode cX0_hangsByIf 26 = .ok (.ior, 1) := by decide +kernel
theorem dX0_hangsByIf_27 : decode cX0_hangsByIf 27 = .ok (.istore_n 3, 1) := by decide +kernel
theorem dX0_hangsByIf_28 : decode cX0_hangsByIf 28 = .ok (.iinc 4 1, 3) := by decide +kernel
theorem dX0_hangsByIf_31 : decode cX0_hangsByIf 31 = .ok (.goto (-19), 3) := by decide +kernel
theorem dX0_hangsByIf_34 : decode cX0_hangsByIf 34 = .ok (.iload_n 3, 1) := by decide +kernel
theorem dX0_hangsByIf_35 : decode cX0_hangsByIf 35 = .ok (.iload_n 1, 1) := by decide +kernel
theorem dX0_hangsByIf_36 : decode cX0_hangsByIf 36 = .ok (.invokestatic 32, 3) := by decide +kernel
theorem dX0_hangsByIf_39 : decode cX0_hangsByIf 39 = .ok (.iconst 1, 1) := by decide +kernel
theorem dX0_hangsByIf_40 : decode cX0_hangsByIf 40 = .ok (.if_icmp .ne 7, 3) := by decide +kernel
theorem dX0_hangsByIf_43 : decode cX0_hangsByIf 43 = .ok (.iconst 1, 1) := by decide +kernel
theorem dX0_hangsByIf_44 : decode cX0_hangsByIf 44 = .ok (.goto 4, 3) := by decide +kernel
theorem dX0_hangsByIf_47 : decode cX0_hangsByIf 47 = .ok (.iconst 0, 1) := by decide +kernel
theorem dX0_hangsByIf_48 : decode cX0_hangsByIf 48 = .ok (.ireturn, 1) := by decide +kernel
set_option maxRecDepth 20000 in
theorem ggX0_isTangled_X0_ifsUnder : GoodIn wsX0_isTangled wsX0_ifsUnder := goodIn_r _ [5, 6, 7, 8, 9, 4, 10, 11, 12, 13, 14, 15, 21, 22, 23, 24, 25] (by decide +kernel) (by decide +kernel)
set_option maxRecDepth 20000 in
theorem gX0_isTangled_X0_ifsUnder : GoodIn wsX0_isTangled (wsV RX0 54 RX0 yX0_ifsUnder wsX0_ifsUnder) := goodIn_app (goodIn_of _ (by decide +kernel)) ggX0_isTangled_X0_ifsUnder
set_option maxRecDepth 20000 in
theorem ggX0_isTangled_X0_unlessUnder : GoodIn wsX0_isTangled wsX0_unlessUnder := goodIn_r _ [19, 20, 7, 8, 9, 4, 10, 11, 12, 13, 14, 15, 21, 22, 23, 24, 25] (by decide +kernel) (by decide +kernel)
set_option maxRecDepth 20000 in
theorem gX0_isTangled_X0_unlessUnder : GoodIn wsX0_isTangled (wsV RX0 57 RX0 yX0_unlessUnder wsX0_unlessUnder) := goodIn_app (goodIn_of _ (by decide +kernel)) ggX0_isTangled_X0_unlessUnder
set_option maxRecDepth 20000 in
theorem ggX0_isTangled_X2_bitOf : GoodIn wsX0_isTangled wsX2_bitOf := goodIn_r _ [15] (by decide +kernel) (by decide +kernel)
set_option maxRecDepth 20000 in
theorem gX0_isTangled_X2_bitOf_n32 : GoodIn wsX0_isTangled (wsX2_bitOf) := ggX0_isTangled_X2_bitOf
theorem dX0_isTangled_0 : decode cX0_isTangled 0 = .ok (.iconst 1, 1) := by decide +kernel
theorem dX0_isTangled_1 : decode cX0_isTangled 1 = .ok (.iload_n 1, 1) := by decide +kernel
theorem dX0_isTangled_2 : decode cX0_isTangled 2 = .ok (.ishl, 1) := by decide +kernel
theorem dX0_isTangled_3 : decode cX0_isTangled 3 = .ok (.istore_n 3, 1) := by decide +kernel
theorem dX0_isTangled_4 : decode cX0_isTangled 4 = .ok (.iconst 0, 1) := by decide +kernel
theorem dX0_isTangled_5 : decode cX0_isTangled 5 = .ok (.istore 4, 2) := by decide +kernel
theorem dX0_isTangled_7 : decode cX0_isTangled 7 = .ok (.iconst 0, 1) := by decide +kernel
theorem dX0_isTangled_8 : decode cX0_isTangled 8 = .ok (.istore 5, 2) := by decide +kernel
theorem dX0_isTangled_10 : decode cX0_isTangled 10 = .ok (.iload 5, 2) := by decide +kernel
theorem dX0_isTangled_12 : decode cX0_isTangled 12 = .ok (.bipush 16, 2) := by decide +kernel
theorem dX0_isTangled_14 : decode cX0_isTangled 14 = .ok (.if_icmp .ge 49, 3) := by decide +kernel
theorem dX0_isTangled_17 : decode cX0_isTangled 17 = .ok (.iload_n 3, 1) := by decide +kernel
theorem dX0_isTangled_18 : decode cX0_isTangled 18 = .ok (.aload_n 0, 1) := by decide +kernel
theorem dX0_isTangled_19 : decode cX0_isTangled 19 = .ok (.iload_n 3, 1) := by decide +kernel
theorem dX0_isTangled_20 : decode cX0_isTangled 20 = .ok (.iload_n 2, 1) := by decide +kernel
theorem dX0_isTangled_21 : decode cX0_isTangled 21 = .ok (.invokevirtual 54, 3) := by decide +kernel
theorem dX0_isTangled_24 : decode cX0_isTangled 24 = .ok (.ior, 1) := by decide +kernel
theorem dX0_isTangled_25 : decode cX0_isTangled 25 = .ok (.aload_n 0, 1) := by decide +kernel
theorem dX0_isTangled_26 : decode cX0_isTangled 26 = .ok (.iload 4, 2) := by decide +kernel
theorem dX0_isTangled_28 : decode cX0_isTangled 28 = .ok (.iload_n 2, 1) := by decide +kernel
theorem dX0_isTangled_29 : decode cX0_isTangled 29 = .ok (.invokevirtual 57, 3) := by decide +kernel
theorem dX0_isTangled_32 : decode cX0_isTangled 32 = .ok (.ior, 1) := by decide +kernel
theorem dX0_isTangled_33 : decode cX0_isTangled 33 = .ok (.istore 6, 2) := by decide +kernel
theorem dX0_isTangled_35 : decode cX0_isTangled 35 = .ok (.iload 4, 2) := by decide +kernel
theorem dX0_isTangled_37 : decode cX0_isTangled 37 = .ok (.aload_n 0, 1) := by decide +kernel
theorem dX0_isTangled_38 : decode cX0_isTangled 38 = .ok (.iload 4, 2) := by decide +kernel
theorem dX0_isTangled_40 : decode cX0_isTangled 40 = .ok (.iload_n 2, 1) := by decide +kernel
theorem dX0_isTangled_41 : decode cX0_isTangled 41 = .ok (.invokevirtual 54, 3) := by decide +kernel
theorem dX0_isTangled_44 : decode cX0_isTangled 44 = .ok (.aload_n 0, 1) := by decide +kernel
theorem dX0_isTangled_45 : decode cX0_isTangled 45 = .ok (.iload_n 3, 1) := by decide +kernel
theorem dX0_isTangled_46 : decode cX0_isTangled 46 = .ok (.iload_n 2, 1) := by decide +kernel
theorem dX0_isTangled_47 : decode cX0_isTangled 47 = .ok (.invokevirtual 57, 3) := by decide +kernel
theorem dX0_isTangled_50 : decode cX0_isTangled 50 = .ok (.ior, 1) := by decide +kernel
theorem dX0_isTangled_51 : decode cX0_isTangled 51 = .ok (.ior, 1) := by decide +kernel
theorem dX0_isTangled_52 : decode cX0_isTangled 52 = .ok (.istore 4, 2) := by decide +kernel
theorem dX0_isTangled_54 : decode cX0_isTangled 54 = .ok (.iload 6, 2) := by decide +kernel
theorem dX0_isTangled_56 : decode cX0_isTangled 56 = .ok (.istore_n 3, 1) := by decide +kernel
theorem dX0_isTangled_57 : decode cX0_isTangled 57 = .ok (.iinc 5 1, 3) := by decide +kernel
theorem dX0_isTangled_60 : decode cX0_isTangled 60 = .ok (.goto (-50), 3) := by decide +kernel
theorem dX0_isTangled_63 : decode cX0_isTangled 63 = .ok (.iload 4, 2) := by decide +kernel
theorem dX0_isTangled_65 : decode cX0_isTangled 65 = .ok (.iload_n 1, 1) := by decide +kernel
theorem dX0_isTangled_66 : decode cX0_isTangled 66 = .ok (.invokestatic 32, 3) := by decide +kernel
theorem dX0_isTangled_69 : decode cX0_isTangled 69 = .ok (.iconst 1, 1) := by decide +kernel
theorem dX0_isTangled_70 : decode cX0_isTangled 70 = .ok (.if_icmp .ne 7, 3) := by decide +kernel
theorem dX0_isTangled_73 : decode cX0_isTangled 73 = .ok (.iconst 1, 1) := by decide +kernel
theorem dX0_isTangled_74 : decode cX0_isTangled 74 = .ok (.goto 4, 3) := by decide +kernel
theorem dX0_isTangled_77 : decode cX0_isTangled 77 = .ok (.iconst 0, 1) := by decide +kernel
theorem dX0_isTangled_78 : decode cX0_isTangled 78 = .ok (.ireturn, 1) := by decide +kernel
theorem dJ6_bitCount_0f7a4_0 : decode cJ6_bitCount_0f7a4 0 = .ok (.iload_n 0, 1) := by decide +kernel
theorem dJ6_bitCount_0f7a4_1 : decode cJ6_bitCount_0f7a4 1 = .ok (.iload_n 0, 1) := by decide +kernel
theorem dJ6_bitCount_0f7a4_2 : decode cJ6_bitCount_0f7a4 2 = .ok (.iconst 1, 1) := by decide +kernel
theorem dJ6_bitCount_0f7a4_3 : decode cJ6_bitCount_0f7a4 3 = .ok (.iushr, 1) := by decide +kernel
theorem dJ6_bitCount_0f7a4_4 : decode cJ6_bitCount_0f7a4 4 = .ok (.ldc_w 265, 3) := by decide +kernel
theorem dJ6_bitCount_0f7a4_7 : decode cJ6_bitCount_0f7a4 7 = .ok (.iand, 1) := by decide +kernel
theorem dJ6_bitCount_0f7a4_8 : decode cJ6_bitCount_0f7a4 8 = .ok (.isub, 1) := by decide +kernel
theorem dJ6_bitCount_0f7a4_9 : decode cJ6_bitCount_0f7a4 9 = .ok (.istore_n 0, 1) := by decide +kernel
theorem dJ6_bitCount_0f7a4_10 : decode cJ6_bitCount_0f7a4 10 = .ok (.iload_n 0, 1) := by decide +kernel
theorem dJ6_bitCount_0f7a4_11 : decode cJ6_bitCount_0f7a4 11 = .ok (.ldc_w 266, 3) := by decide +kernel
theorem dJ6_bitCount_0f7a4_14 : decode cJ6_bitCount_0f7a4 14 = .ok (.iand, 1) := by decide +kernel
theorem dJ6_bitCount_0f7a4_15 : decode cJ6_bitCount_0f7a4 15 = .ok (.iload_n 0, 1) := by decide +kernel
theorem dJ6_bitCount_0f7a4_16 : decode cJ6_bitCount_0f7a4 16 = .ok (.iconst 2, 1) := by decide +kernel
theorem dJ6_bitCount_0f7a4_17 : decode cJ6_bitCount_0f7a4 17 = .ok (.iushr, 1) := by decide +kernel
theorem dJ6_bitCount_0f7a4_18 : decode cJ6_bitCount_0f7a4 18 = .ok (.ldc_w 266, 3) := by decide +kernel
theorem dJ6_bitCount_0f7a4_21 : decode cJ6_bitCount_0f7a4 21 = .ok (.iand, 1) := by decide +kernel
theorem dJ6_bitCount_0f7a4_22 : decode cJ6_bitCount_0f7a4 22 = .ok (.iadd, 1) := by decide +kernel
theorem dJ6_bitCount_0f7a4_23 : decode cJ6_bitCount_0f7a4 23 = .ok (.istore_n 0, 1) := by decide +kernel
theorem dJ6_bitCount_0f7a4_24 : decode cJ6_bitCount_0f7a4 24 = .ok (.iload_n 0, 1) := by decide +kernel
theorem dJ6_bitCount_0f7a4_25 : decode cJ6_bitCount_0f7a4 25 = .ok (.iload_n 0, 1) := by decide +kernel
theorem dJ6_bitCount_0f7a4_26 : decode cJ6_bitCount_0f7a4 26 = .ok (.iconst 4, 1) := by decide +kernel
theorem dJ6_bitCount_0f7a4_27 : decode cJ6_bitCount_0f7a4 27 = .ok (.iushr, 1) := by decide +kernel
theorem dJ6_bitCount_0f7a4_28 : decode cJ6_bitCount_0f7a4 28 = .ok (.iadd, 1) := by decide +kernel
theorem dJ6_bitCount_0f7a4_29 : decode cJ6_bitCount_0f7a4 29 = .ok (.ldc_w 267, 3) := by decide +kernel
theorem dJ6_bitCount_0f7a4_32 : decode cJ6_bitCount_0f7a4 32 = .ok (.iand, 1) := by decide +kernel
theorem dJ6_bitCount_0f7a4_33 : decode cJ6_bitCount_0f7a4 33 = .ok (.istore_n 0, 1) := by decide +kernel
theorem dJ6_bitCount_0f7a4_34 : decode cJ6_bitCount_0f7a4 34 = .ok (.iload_n 0, 1) := by decide +kernel
theorem dJ6_bitCount_0f7a4_35 : decode cJ6_bitCount_0f7a4 35 = .ok (.iload_n 0, 1) := by decide +kernel
theorem dJ6_bitCount_0f7a4_36 : decode cJ6_bitCount_0f7a4 36 = .ok (.bipush 8, 2) := by decide +kernel
theorem dJ6_bitCount_0f7a4_38 : decode cJ6_bitCount_0f7a4 38 = .ok (.iushr, 1) := by decide +kernel
theorem dJ6_bitCount_0f7a4_39 : decode cJ6_bitCount_0f7a4 39 = .ok (.iadd, 1) := by decide +kernel
theorem dJ6_bitCount_0f7a4_40 : decode cJ6_bitCount_0f7a4 40 = .ok (.istore_n 0, 1) := by decide +kernel
theorem dJ6_bitCount_0f7a4_41 : decode cJ6_bitCount_0f7a4 41 = .ok (.iload_n 0, 1) := by decide +kernel
theorem dJ6_bitCount_0f7a4_42 : decode cJ6_bitCount_0f7a4 42 = .ok (.iload_n 0, 1) := by decide +kernel
theorem dJ6_bitCount_0f7a4_43 : decode cJ6_bitCount_0f7a4 43 = .ok (.bipush 16, 2) := by decide +kernel
theorem dJ6_bitCount_0f7a4_45 : decode cJ6_bitCount_0f7a4 45 = .ok (.iushr, 1) := by decide +kernel
theorem dJ6_bitCount_0f7a4_46 : decode cJ6_bitCount_0f7a4 46 = .ok (.iadd, 1) := by decide +kernel
theorem dJ6_bitCount_0f7a4_47 : decode cJ6_bitCount_0f7a4 47 = .ok (.istore_n 0, 1) := by decide +kernel
theorem dJ6_bitCount_0f7a4_48 : decode cJ6_bitCount_0f7a4 48 = .ok (.iload_n 0, 1) := by decide +kernel
theorem dJ6_bitCount_0f7a4_49 : decode cJ6_bitCount_0f7a4 49 = .ok (.bipush 63, 2) := by decide +kernel
theorem dJ6_bitCount_0f7a4_51 : decode cJ6_bitCount_0f7a4 51 = .ok (.iand, 1) := by decide +kernel
theorem dJ6_bitCount_0f7a4_52 : decode cJ6_bitCount_0f7a4 52 = .ok (.ireturn, 1) := by decide +kernel
