section
-- ===== PART A: goes FIRST, ahead of the names: the tables' words, and 'selects' of the private methods out of them =====
/-- a private method of a class that the tables say can be made, by its rows of tables_1 -/
def lw_okq (q : MethodName × Nat) : Prop := (q.1.cls ≠ "java/lang/invoke/MethodHandle" ∧ q.1.cls ≠ "java/lang/invoke/VarHandle") ∧ Cond.instantiable q.1.cls q.2 ∈ tables_1 ∧ Cond.privateMethod q.1 ∈ tables_1 ∧ Cond.instanceMethod q.1 ∈ tables_1
theorem lw_p0 : lw_okq (⟨"HoldUnless$Text", "append", "(B)V"⟩, 5) := ⟨⟨by decide +kernel, by decide +kernel⟩, List.mem_of_getElem? (i := 15) (by decide +kernel), List.mem_of_getElem? (i := 101) (by decide +kernel), List.mem_of_getElem? (i := 102) (by decide +kernel)⟩
theorem lw_p1 : lw_okq (⟨"HoldUnless$Text", "readInto", "(LHoldUnless$RuleBook;)I"⟩, 5) := ⟨⟨by decide +kernel, by decide +kernel⟩, List.mem_of_getElem? (i := 15) (by decide +kernel), List.mem_of_getElem? (i := 113) (by decide +kernel), List.mem_of_getElem? (i := 114) (by decide +kernel)⟩
theorem lw_p2 : lw_okq (⟨"HoldUnless$RuleBook", "forgetAll", "()V"⟩, 5) := ⟨⟨by decide +kernel, by decide +kernel⟩, List.mem_of_getElem? (i := 40) (by decide +kernel), List.mem_of_getElem? (i := 117) (by decide +kernel), List.mem_of_getElem? (i := 118) (by decide +kernel)⟩
theorem lw_p3 : lw_okq (⟨"HoldUnless$Text", "advance", "()V"⟩, 5) := ⟨⟨by decide +kernel, by decide +kernel⟩, List.mem_of_getElem? (i := 15) (by decide +kernel), List.mem_of_getElem? (i := 121) (by decide +kernel), List.mem_of_getElem? (i := 122) (by decide +kernel)⟩
theorem lw_p4 : lw_okq (⟨"HoldUnless$Text", "byteAt", "(I)I"⟩, 5) := ⟨⟨by decide +kernel, by decide +kernel⟩, List.mem_of_getElem? (i := 15) (by decide +kernel), List.mem_of_getElem? (i := 125) (by decide +kernel), List.mem_of_getElem? (i := 126) (by decide +kernel)⟩
theorem lw_p5 : lw_okq (⟨"HoldUnless$Text", "readWord", "()V"⟩, 5) := ⟨⟨by decide +kernel, by decide +kernel⟩, List.mem_of_getElem? (i := 15) (by decide +kernel), List.mem_of_getElem? (i := 132) (by decide +kernel), List.mem_of_getElem? (i := 133) (by decide +kernel)⟩
theorem lw_p6 : lw_okq (⟨"HoldUnless$Text", "readMay", "(LHoldUnless$RuleBook;)Z"⟩, 5) := ⟨⟨by decide +kernel, by decide +kernel⟩, List.mem_of_getElem? (i := 15) (by decide +kernel), List.mem_of_getElem? (i := 145) (by decide +kernel), List.mem_of_getElem? (i := 146) (by decide +kernel)⟩
theorem lw_p7 : lw_okq (⟨"HoldUnless$Text", "readSentences", "()I"⟩, 5) := ⟨⟨by decide +kernel, by decide +kernel⟩, List.mem_of_getElem? (i := 15) (by decide +kernel), List.mem_of_getElem? (i := 149) (by decide +kernel), List.mem_of_getElem? (i := 150) (by decide +kernel)⟩
theorem lw_p8 : lw_okq (⟨"HoldUnless$Text", "readRule", "(LHoldUnless$RuleBook;)Z"⟩, 5) := ⟨⟨by decide +kernel, by decide +kernel⟩, List.mem_of_getElem? (i := 15) (by decide +kernel), List.mem_of_getElem? (i := 156) (by decide +kernel), List.mem_of_getElem? (i := 157) (by decide +kernel)⟩
theorem lw_p9 : lw_okq (⟨"HoldUnless$RuleBook", "hasRoom", "()Z"⟩, 5) := ⟨⟨by decide +kernel, by decide +kernel⟩, List.mem_of_getElem? (i := 40) (by decide +kernel), List.mem_of_getElem? (i := 160) (by decide +kernel), List.mem_of_getElem? (i := 161) (by decide +kernel)⟩
theorem lw_p10 : lw_okq (⟨"HoldUnless$RuleBook", "add", "(III)V"⟩, 5) := ⟨⟨by decide +kernel, by decide +kernel⟩, List.mem_of_getElem? (i := 40) (by decide +kernel), List.mem_of_getElem? (i := 164) (by decide +kernel), List.mem_of_getElem? (i := 165) (by decide +kernel)⟩
theorem lw_p11 : lw_okq (⟨"HoldUnless", "isRule", "(I)Z"⟩, 9) := ⟨⟨by decide +kernel, by decide +kernel⟩, List.mem_of_getElem? (i := 7) (by decide +kernel), List.mem_of_getElem? (i := 173) (by decide +kernel), List.mem_of_getElem? (i := 174) (by decide +kernel)⟩
theorem lw_p12 : lw_okq (⟨"HoldUnless$RuleBook", "upholds", "(III)Z"⟩, 5) := ⟨⟨by decide +kernel, by decide +kernel⟩, List.mem_of_getElem? (i := 40) (by decide +kernel), List.mem_of_getElem? (i := 199) (by decide +kernel), List.mem_of_getElem? (i := 200) (by decide +kernel)⟩
theorem lw_p13 : lw_okq (⟨"HoldUnless$RuleBook", "brokenBy", "(II)I"⟩, 5) := ⟨⟨by decide +kernel, by decide +kernel⟩, List.mem_of_getElem? (i := 40) (by decide +kernel), List.mem_of_getElem? (i := 203) (by decide +kernel), List.mem_of_getElem? (i := 204) (by decide +kernel)⟩
theorem lw_p14 : lw_okq (⟨"HoldUnless$RuleBook", "bodyHolds", "(III)Z"⟩, 5) := ⟨⟨by decide +kernel, by decide +kernel⟩, List.mem_of_getElem? (i := 40) (by decide +kernel), List.mem_of_getElem? (i := 208) (by decide +kernel), List.mem_of_getElem? (i := 209) (by decide +kernel)⟩
theorem lw_p15 : lw_okq (⟨"HoldUnless$RuleBook", "comesOf", "(III)I"⟩, 5) := ⟨⟨by decide +kernel, by decide +kernel⟩, List.mem_of_getElem? (i := 40) (by decide +kernel), List.mem_of_getElem? (i := 212) (by decide +kernel), List.mem_of_getElem? (i := 213) (by decide +kernel)⟩
def lw_privs_1 : List (MethodName × Nat) := [(⟨"HoldUnless$Text", "append", "(B)V"⟩, 5), (⟨"HoldUnless$Text", "readInto", "(LHoldUnless$RuleBook;)I"⟩, 5), (⟨"HoldUnless$RuleBook", "forgetAll", "()V"⟩, 5), (⟨"HoldUnless$Text", "advance", "()V"⟩, 5), (⟨"HoldUnless$Text", "byteAt", "(I)I"⟩, 5), (⟨"HoldUnless$Text", "readWord", "()V"⟩, 5), (⟨"HoldUnless$Text", "readMay", "(LHoldUnless$RuleBook;)Z"⟩, 5), (⟨"HoldUnless$Text", "readSentences", "()I"⟩, 5), (⟨"HoldUnless$Text", "readRule", "(LHoldUnless$RuleBook;)Z"⟩, 5), (⟨"HoldUnless$RuleBook", "hasRoom", "()Z"⟩, 5), (⟨"HoldUnless$RuleBook", "add", "(III)V"⟩, 5), (⟨"HoldUnless", "isRule", "(I)Z"⟩, 9), (⟨"HoldUnless$RuleBook", "upholds", "(III)Z"⟩, 5), (⟨"HoldUnless$RuleBook", "brokenBy", "(II)I"⟩, 5), (⟨"HoldUnless$RuleBook", "bodyHolds", "(III)Z"⟩, 5), (⟨"HoldUnless$RuleBook", "comesOf", "(III)I"⟩, 5)]
theorem lw_r1 : ∀ q ∈ lw_privs_1, lw_okq q := List.forall_mem_cons.mpr ⟨lw_p0, List.forall_mem_cons.mpr ⟨lw_p1, List.forall_mem_cons.mpr ⟨lw_p2, List.forall_mem_cons.mpr ⟨lw_p3, List.forall_mem_cons.mpr ⟨lw_p4, List.forall_mem_cons.mpr ⟨lw_p5, List.forall_mem_cons.mpr ⟨lw_p6, List.forall_mem_cons.mpr ⟨lw_p7, List.forall_mem_cons.mpr ⟨lw_p8, List.forall_mem_cons.mpr ⟨lw_p9, List.forall_mem_cons.mpr ⟨lw_p10, List.forall_mem_cons.mpr ⟨lw_p11, List.forall_mem_cons.mpr ⟨lw_p12, List.forall_mem_cons.mpr ⟨lw_p13, List.forall_mem_cons.mpr ⟨lw_p14, List.forall_mem_cons.mpr ⟨lw_p15, fun _ h => absurd h List.not_mem_nil⟩⟩⟩⟩⟩⟩⟩⟩⟩⟩⟩⟩⟩⟩⟩⟩
theorem lw_p16 : lw_okq (⟨"HoldUnless$RuleBook", "nextRound", "(III)I"⟩, 5) := ⟨⟨by decide +kernel, by decide +kernel⟩, List.mem_of_getElem? (i := 40) (by decide +kernel), List.mem_of_getElem? (i := 216) (by decide +kernel), List.mem_of_getElem? (i := 217) (by decide +kernel)⟩
theorem lw_p17 : lw_okq (⟨"HoldUnless", "standingSet", "(I)I"⟩, 9) := ⟨⟨by decide +kernel, by decide +kernel⟩, List.mem_of_getElem? (i := 7) (by decide +kernel), List.mem_of_getElem? (i := 224) (by decide +kernel), List.mem_of_getElem? (i := 225) (by decide +kernel)⟩
theorem lw_p18 : lw_okq (⟨"HoldUnless$RuleBook", "firstRuleBringing", "(IIII)I"⟩, 5) := ⟨⟨by decide +kernel, by decide +kernel⟩, List.mem_of_getElem? (i := 40) (by decide +kernel), List.mem_of_getElem? (i := 248) (by decide +kernel), List.mem_of_getElem? (i := 249) (by decide +kernel)⟩
theorem lw_p19 : lw_okq (⟨"HoldUnless$RuleBook", "hangsByIf", "(II)Z"⟩, 5) := ⟨⟨by decide +kernel, by decide +kernel⟩, List.mem_of_getElem? (i := 40) (by decide +kernel), List.mem_of_getElem? (i := 257) (by decide +kernel), List.mem_of_getElem? (i := 258) (by decide +kernel)⟩
theorem lw_p20 : lw_okq (⟨"HoldUnless$RuleBook", "ifsUnder", "(II)I"⟩, 5) := ⟨⟨by decide +kernel, by decide +kernel⟩, List.mem_of_getElem? (i := 40) (by decide +kernel), List.mem_of_getElem? (i := 261) (by decide +kernel), List.mem_of_getElem? (i := 262) (by decide +kernel)⟩
theorem lw_p21 : lw_okq (⟨"HoldUnless$RuleBook", "partUnder", "([III)I"⟩, 5) := ⟨⟨by decide +kernel, by decide +kernel⟩, List.mem_of_getElem? (i := 40) (by decide +kernel), List.mem_of_getElem? (i := 265) (by decide +kernel), List.mem_of_getElem? (i := 266) (by decide +kernel)⟩
theorem lw_p22 : lw_okq (⟨"HoldUnless$RuleBook", "isTangled", "(II)Z"⟩, 5) := ⟨⟨by decide +kernel, by decide +kernel⟩, List.mem_of_getElem? (i := 40) (by decide +kernel), List.mem_of_getElem? (i := 269) (by decide +kernel), List.mem_of_getElem? (i := 270) (by decide +kernel)⟩
theorem lw_p23 : lw_okq (⟨"HoldUnless$RuleBook", "unlessUnder", "(II)I"⟩, 5) := ⟨⟨by decide +kernel, by decide +kernel⟩, List.mem_of_getElem? (i := 40) (by decide +kernel), List.mem_of_getElem? (i := 273) (by decide +kernel), List.mem_of_getElem? (i := 274) (by decide +kernel)⟩
theorem lw_p24 : lw_okq (⟨"HoldUnless", "standsWith", "(II)Z"⟩, 9) := ⟨⟨by decide +kernel, by decide +kernel⟩, List.mem_of_getElem? (i := 7) (by decide +kernel), List.mem_of_getElem? (i := 287) (by decide +kernel), List.mem_of_getElem? (i := 288) (by decide +kernel)⟩
theorem lw_p25 : lw_okq (⟨"HoldUnless", "sameSetsWith", "(II)Z"⟩, 9) := ⟨⟨by decide +kernel, by decide +kernel⟩, List.mem_of_getElem? (i := 7) (by decide +kernel), List.mem_of_getElem? (i := 303) (by decide +kernel), List.mem_of_getElem? (i := 304) (by decide +kernel)⟩
theorem lw_p26 : lw_okq (⟨"HoldUnless", "markOfRule", "(I)I"⟩, 9) := ⟨⟨by decide +kernel, by decide +kernel⟩, List.mem_of_getElem? (i := 7) (by decide +kernel), List.mem_of_getElem? (i := 319) (by decide +kernel), List.mem_of_getElem? (i := 320) (by decide +kernel)⟩
theorem lw_p27 : lw_okq (⟨"HoldUnless", "markOfLaw", "(I)I"⟩, 9) := ⟨⟨by decide +kernel, by decide +kernel⟩, List.mem_of_getElem? (i := 7) (by decide +kernel), List.mem_of_getElem? (i := 323) (by decide +kernel), List.mem_of_getElem? (i := 324) (by decide +kernel)⟩
theorem lw_p28 : lw_okq (⟨"HoldUnless", "markOfHabit", "(I)I"⟩, 9) := ⟨⟨by decide +kernel, by decide +kernel⟩, List.mem_of_getElem? (i := 7) (by decide +kernel), List.mem_of_getElem? (i := 328) (by decide +kernel), List.mem_of_getElem? (i := 329) (by decide +kernel)⟩
theorem lw_p29 : lw_okq (⟨"HoldUnless", "markOfDecree", "(I)I"⟩, 9) := ⟨⟨by decide +kernel, by decide +kernel⟩, List.mem_of_getElem? (i := 7) (by decide +kernel), List.mem_of_getElem? (i := 333) (by decide +kernel), List.mem_of_getElem? (i := 334) (by decide +kernel)⟩
theorem lw_p30 : lw_okq (⟨"HoldUnless", "markOfCustom", "(I)I"⟩, 9) := ⟨⟨by decide +kernel, by decide +kernel⟩, List.mem_of_getElem? (i := 7) (by decide +kernel), List.mem_of_getElem? (i := 338) (by decide +kernel), List.mem_of_getElem? (i := 339) (by decide +kernel)⟩
theorem lw_p31 : lw_okq (⟨"HoldUnless", "markOfOath", "(I)I"⟩, 9) := ⟨⟨by decide +kernel, by decide +kernel⟩, List.mem_of_getElem? (i := 7) (by decide +kernel), List.mem_of_getElem? (i := 343) (by decide +kernel), List.mem_of_getElem? (i := 344) (by decide +kernel)⟩
def lw_privs_2 : List (MethodName × Nat) := [(⟨"HoldUnless$RuleBook", "nextRound", "(III)I"⟩, 5), (⟨"HoldUnless", "standingSet", "(I)I"⟩, 9), (⟨"HoldUnless$RuleBook", "firstRuleBringing", "(IIII)I"⟩, 5), (⟨"HoldUnless$RuleBook", "hangsByIf", "(II)Z"⟩, 5), (⟨"HoldUnless$RuleBook", "ifsUnder", "(II)I"⟩, 5), (⟨"HoldUnless$RuleBook", "partUnder", "([III)I"⟩, 5), (⟨"HoldUnless$RuleBook", "isTangled", "(II)Z"⟩, 5), (⟨"HoldUnless$RuleBook", "unlessUnder", "(II)I"⟩, 5), (⟨"HoldUnless", "standsWith", "(II)Z"⟩, 9), (⟨"HoldUnless", "sameSetsWith", "(II)Z"⟩, 9), (⟨"HoldUnless", "markOfRule", "(I)I"⟩, 9), (⟨"HoldUnless", "markOfLaw", "(I)I"⟩, 9), (⟨"HoldUnless", "markOfHabit", "(I)I"⟩, 9), (⟨"HoldUnless", "markOfDecree", "(I)I"⟩, 9), (⟨"HoldUnless", "markOfCustom", "(I)I"⟩, 9), (⟨"HoldUnless", "markOfOath", "(I)I"⟩, 9)]
theorem lw_r2 : ∀ q ∈ lw_privs_2, lw_okq q := List.forall_mem_cons.mpr ⟨lw_p16, List.forall_mem_cons.mpr ⟨lw_p17, List.forall_mem_cons.mpr ⟨lw_p18, List.forall_mem_cons.mpr ⟨lw_p19, List.forall_mem_cons.mpr ⟨lw_p20, List.forall_mem_cons.mpr ⟨lw_p21, List.forall_mem_cons.mpr ⟨lw_p22, List.forall_mem_cons.mpr ⟨lw_p23, List.forall_mem_cons.mpr ⟨lw_p24, List.forall_mem_cons.mpr ⟨lw_p25, List.forall_mem_cons.mpr ⟨lw_p26, List.forall_mem_cons.mpr ⟨lw_p27, List.forall_mem_cons.mpr ⟨lw_p28, List.forall_mem_cons.mpr ⟨lw_p29, List.forall_mem_cons.mpr ⟨lw_p30, List.forall_mem_cons.mpr ⟨lw_p31, fun _ h => absurd h List.not_mem_nil⟩⟩⟩⟩⟩⟩⟩⟩⟩⟩⟩⟩⟩⟩⟩⟩
theorem lw_p32 : lw_okq (⟨"HoldUnlessModel", "next", "()I"⟩, 26) := ⟨⟨by decide +kernel, by decide +kernel⟩, List.mem_of_getElem? (i := 364) (by decide +kernel), List.mem_of_getElem? (i := 467) (by decide +kernel), List.mem_of_getElem? (i := 468) (by decide +kernel)⟩
theorem lw_p33 : lw_okq (⟨"HoldUnlessModel", "goesTo", "(II)I"⟩, 26) := ⟨⟨by decide +kernel, by decide +kernel⟩, List.mem_of_getElem? (i := 364) (by decide +kernel), List.mem_of_getElem? (i := 480) (by decide +kernel), List.mem_of_getElem? (i := 481) (by decide +kernel)⟩
theorem lw_p34 : lw_okq (⟨"HoldUnlessModel", "take", "(II)V"⟩, 26) := ⟨⟨by decide +kernel, by decide +kernel⟩, List.mem_of_getElem? (i := 364) (by decide +kernel), List.mem_of_getElem? (i := 484) (by decide +kernel), List.mem_of_getElem? (i := 485) (by decide +kernel)⟩
theorem lw_p35 : lw_okq (⟨"HoldUnlessModel", "isRule", "(I)Z"⟩, 26) := ⟨⟨by decide +kernel, by decide +kernel⟩, List.mem_of_getElem? (i := 364) (by decide +kernel), List.mem_of_getElem? (i := 492) (by decide +kernel), List.mem_of_getElem? (i := 493) (by decide +kernel)⟩
theorem lw_p36 : lw_okq (⟨"HoldUnlessModel", "findAll", "([III)I"⟩, 26) := ⟨⟨by decide +kernel, by decide +kernel⟩, List.mem_of_getElem? (i := 364) (by decide +kernel), List.mem_of_getElem? (i := 510) (by decide +kernel), List.mem_of_getElem? (i := 511) (by decide +kernel)⟩
theorem lw_p37 : lw_okq (⟨"HoldUnlessModel", "doesStand", "(III)Z"⟩, 26) := ⟨⟨by decide +kernel, by decide +kernel⟩, List.mem_of_getElem? (i := 364) (by decide +kernel), List.mem_of_getElem? (i := 514) (by decide +kernel), List.mem_of_getElem? (i := 515) (by decide +kernel)⟩
theorem lw_p38 : lw_okq (⟨"HoldUnlessModel", "isBanned", "(II)Z"⟩, 26) := ⟨⟨by decide +kernel, by decide +kernel⟩, List.mem_of_getElem? (i := 364) (by decide +kernel), List.mem_of_getElem? (i := 518) (by decide +kernel), List.mem_of_getElem? (i := 519) (by decide +kernel)⟩
theorem lw_p39 : lw_okq (⟨"HoldUnlessModel", "grows", "(III)I"⟩, 26) := ⟨⟨by decide +kernel, by decide +kernel⟩, List.mem_of_getElem? (i := 364) (by decide +kernel), List.mem_of_getElem? (i := 525) (by decide +kernel), List.mem_of_getElem? (i := 526) (by decide +kernel)⟩
theorem lw_p40 : lw_okq (⟨"HoldUnlessModel", "ofAll", "(I)I"⟩, 26) := ⟨⟨by decide +kernel, by decide +kernel⟩, List.mem_of_getElem? (i := 364) (by decide +kernel), List.mem_of_getElem? (i := 533) (by decide +kernel), List.mem_of_getElem? (i := 534) (by decide +kernel)⟩
theorem lw_p41 : lw_okq (⟨"HoldUnlessModel", "findHangs", "(Z)V"⟩, 26) := ⟨⟨by decide +kernel, by decide +kernel⟩, List.mem_of_getElem? (i := 364) (by decide +kernel), List.mem_of_getElem? (i := 558) (by decide +kernel), List.mem_of_getElem? (i := 559) (by decide +kernel)⟩
theorem lw_p42 : lw_okq (⟨"HoldUnlessModel", "isInSome", "(II)Z"⟩, 26) := ⟨⟨by decide +kernel, by decide +kernel⟩, List.mem_of_getElem? (i := 364) (by decide +kernel), List.mem_of_getElem? (i := 569) (by decide +kernel), List.mem_of_getElem? (i := 570) (by decide +kernel)⟩
theorem lw_p43 : lw_okq (⟨"HoldUnlessModel", "isAny", "(I)Z"⟩, 26) := ⟨⟨by decide +kernel, by decide +kernel⟩, List.mem_of_getElem? (i := 364) (by decide +kernel), List.mem_of_getElem? (i := 577) (by decide +kernel), List.mem_of_getElem? (i := 578) (by decide +kernel)⟩
theorem lw_p44 : lw_okq (⟨"HoldUnlessModel", "areSame", "(II)Z"⟩, 26) := ⟨⟨by decide +kernel, by decide +kernel⟩, List.mem_of_getElem? (i := 364) (by decide +kernel), List.mem_of_getElem? (i := 585) (by decide +kernel), List.mem_of_getElem? (i := 586) (by decide +kernel)⟩
def lw_privs_3 : List (MethodName × Nat) := [(⟨"HoldUnlessModel", "next", "()I"⟩, 26), (⟨"HoldUnlessModel", "goesTo", "(II)I"⟩, 26), (⟨"HoldUnlessModel", "take", "(II)V"⟩, 26), (⟨"HoldUnlessModel", "isRule", "(I)Z"⟩, 26), (⟨"HoldUnlessModel", "findAll", "([III)I"⟩, 26), (⟨"HoldUnlessModel", "doesStand", "(III)Z"⟩, 26), (⟨"HoldUnlessModel", "isBanned", "(II)Z"⟩, 26), (⟨"HoldUnlessModel", "grows", "(III)I"⟩, 26), (⟨"HoldUnlessModel", "ofAll", "(I)I"⟩, 26), (⟨"HoldUnlessModel", "findHangs", "(Z)V"⟩, 26), (⟨"HoldUnlessModel", "isInSome", "(II)Z"⟩, 26), (⟨"HoldUnlessModel", "isAny", "(I)Z"⟩, 26), (⟨"HoldUnlessModel", "areSame", "(II)Z"⟩, 26)]
theorem lw_r3 : ∀ q ∈ lw_privs_3, lw_okq q := List.forall_mem_cons.mpr ⟨lw_p32, List.forall_mem_cons.mpr ⟨lw_p33, List.forall_mem_cons.mpr ⟨lw_p34, List.forall_mem_cons.mpr ⟨lw_p35, List.forall_mem_cons.mpr ⟨lw_p36, List.forall_mem_cons.mpr ⟨lw_p37, List.forall_mem_cons.mpr ⟨lw_p38, List.forall_mem_cons.mpr ⟨lw_p39, List.forall_mem_cons.mpr ⟨lw_p40, List.forall_mem_cons.mpr ⟨lw_p41, List.forall_mem_cons.mpr ⟨lw_p42, List.forall_mem_cons.mpr ⟨lw_p43, List.forall_mem_cons.mpr ⟨lw_p44, fun _ h => absurd h List.not_mem_nil⟩⟩⟩⟩⟩⟩⟩⟩⟩⟩⟩⟩⟩
def lw_privs : List (MethodName × Nat) := lw_privs_1 ++ (lw_privs_2 ++ (lw_privs_3))
def lw_tbl : List Cond := k2_sels lw_privs ++ tables_1
theorem lw_privs_ok : ∀ q ∈ lw_privs, lw_okq q := by
  show ∀ q ∈ lw_privs_1 ++ (lw_privs_2 ++ (lw_privs_3)), lw_okq q
  exact List.forall_mem_append.mpr ⟨lw_r1, List.forall_mem_append.mpr ⟨lw_r2, lw_r3⟩⟩
end
section
/-! ===== BEGIN words of one list among another's, by their places ===== -/
theorem goodIn_r {big : List Cond} (ws : List Cond) (ps : List Nat) (hp : ws = ps.filterMap (fun i => big[i]?)) (h : ws.all goodWord = true) : GoodIn big ws := by
  intro w hw
  have h1 := List.all_eq_true.mp h w hw
  rw [hp] at hw
  obtain ⟨i, -, hi⟩ := List.mem_filterMap.mp hw
  have hm : w ∈ big := by first | exact List.mem_of_getElem? hi | exact List.getElem?_mem hi
  exact ⟨hm, good_of_word h1⟩
theorem goodIn_app {big a b : List Cond} (ha : GoodIn big a) (hb : GoodIn big b) : GoodIn big (a ++ b) := fun w h => (List.mem_append.mp h).elim (ha w) (hb w)
theorem goodIn_ca {big a b : List Cond} {c : Cond} (ha : GoodIn big (c :: a)) (hb : GoodIn big b) : GoodIn big (c :: (a ++ b)) := fun w h => (List.mem_cons.mp h).elim (fun e => ha w (List.mem_cons.mpr (Or.inl e))) (fun h => (List.mem_append.mp h).elim (fun h => ha w (List.mem_cons.mpr (Or.inr h))) (hb w))
theorem goodIn_sub {big ws : List Cond} (hm : ∀ w ∈ ws, w ∈ big) (h : ws.all goodWord = true) : GoodIn big ws := fun w hw => ⟨hm w hw, good_of_word (List.all_eq_true.mp h w hw)⟩
/-! ===== END ===== -/

/-! ===== BEGIN printed: names, fields, word lists, decode rows ===== -/
def RX0 : String := "HoldUnless$RuleBook"
def TX0 : u_T := fun k => match k with
  | 0 => ("HoldUnless$RuleBook", "size", "I", false)
  | 1 => ("HoldUnless$RuleBook", "may", "I", false)
  | 2 => ("HoldUnless$RuleBook", "head", "[I", true)
  | 3 => ("HoldUnless$RuleBook", "ifs", "[I", true)
  | _ => ("HoldUnless$RuleBook", "unless", "[I", true)
def tyX0 : Nat → FieldType := fun k => match k with
  | 0 => .int
  | 1 => .int
  | 2 => .array .int
  | 3 => .array .int
  | _ => .array .int
abbrev wsX00 : List Cond := u_ws RX0 TX0 5
theorem nmX0 : ∀ a, a < 5 → ∀ b, b < 5 → a ≠ b → (TX0 a).2.1 ≠ (TX0 b).2.1 := by decide +kernel
theorem tyX0_ok : ∀ k, k < 5 → parseFieldDescriptor (TX0 k).2.2.1 = some (tyX0 k) := by decide +kernel
abbrev cX0_init : ByteArray := prog_2_method_1_code
def yX0_init : MethodName := ⟨RX0, "<init>", "()V"⟩
abbrev cX0_forgetAll : ByteArray := prog_2_method_2_code
def yX0_forgetAll : MethodName := ⟨RX0, "forgetAll", "()V"⟩
abbrev cX0_hasRoom : ByteArray := prog_2_method_3_code
def yX0_hasRoom : MethodName := ⟨RX0, "hasRoom", "()Z"⟩
abbrev cX0_add : ByteArray := prog_2_method_4_code
def yX0_add : MethodName := ⟨RX0, "add", "(III)V"⟩
abbrev cX0_bodyHolds : ByteArray := prog_2_method_5_code
def yX0_bodyHolds : MethodName := ⟨RX0, "bodyHolds", "(III)Z"⟩
abbrev cX0_nextRound : ByteArray := prog_2_method_6_code
def yX0_nextRound : MethodName := ⟨RX0, "nextRound", "(III)I"⟩
abbrev cX0_comesOf : ByteArray := prog_2_method_7_code
def yX0_comesOf : MethodName := ⟨RX0, "comesOf", "(III)I"⟩
abbrev cX0_brokenBy : ByteArray := prog_2_method_8_code
def yX0_brokenBy : MethodName := ⟨RX0, "brokenBy", "(II)I"⟩
abbrev cX0_upholds : ByteArray := prog_2_method_9_code
def yX0_upholds : MethodName := ⟨RX0, "upholds", "(III)Z"⟩
abbrev cX0_firstRuleBringing : ByteArray := prog_2_method_10_code
def yX0_firstRuleBringing : MethodName := ⟨RX0, "firstRuleBringing", "(IIII)I"⟩
abbrev cX0_ifsUnder : ByteArray := prog_2_method_11_code
def yX0_ifsUnder : MethodName := ⟨RX0, "ifsUnder", "(II)I"⟩
abbrev cX0_unlessUnder : ByteArray := prog_2_method_12_code
def yX0_unlessUnder : MethodName := ⟨RX0, "unlessUnder", "(II)I"⟩
abbrev cX0_partUnder : ByteArray := prog_2_method_13_code
def yX0_partUnder : MethodName := ⟨RX0, "partUnder", "([III)I"⟩
abbrev cX0_hangsByIf : ByteArray := prog_2_method_14_code
def yX0_hangsByIf : MethodName := ⟨RX0, "hangsByIf", "(II)Z"⟩
abbrev cX0_isTangled : ByteArray := prog_2_method_15_code
def yX0_isTangled : MethodName := ⟨RX0, "isTangled", "(II)Z"⟩
def RX1 : String := "HoldUnless$Text"
def TX1 : u_T := fun k => match k with
  | 0 => ("HoldUnless$Text", "bytes", "[B", true)
  | 1 => ("HoldUnless$Text", "length", "I", false)
  | 2 => ("HoldUnless$Text", "place", "I", false)
  | 3 => ("HoldUnless$Text", "token", "I", false)
  | _ => ("HoldUnless$Text", "tokenPlace", "I", false)
def tyX1 : Nat → FieldType := fun k => match k with
  | 0 => .array .byte
  | 1 => .int
  | 2 => .int
  | 3 => .int
  | _ => .int
abbrev wsX10 : List Cond := u_ws RX1 TX1 5
theorem nmX1 : ∀ a, a < 5 → ∀ b, b < 5 → a ≠ b → (TX1 a).2.1 ≠ (TX1 b).2.1 := by decide +kernel
theorem tyX1_ok : ∀ k, k < 5 → parseFieldDescriptor (TX1 k).2.2.1 = some (tyX1 k) := by decide +kernel
abbrev cX1_init : ByteArray := prog_3_method_1_code
def yX1_init : MethodName := ⟨RX1, "<init>", "()V"⟩
abbrev cX1_append : ByteArray := prog_3_method_2_code
def yX1_append : MethodName := ⟨RX1, "append", "(B)V"⟩
abbrev cX1_readInto : ByteArray := prog_3_method_3_code
def yX1_readInto : MethodName := ⟨RX1, "readInto", "(LHoldUnless$RuleBook;)I"⟩
abbrev cX1_readMay : ByteArray := prog_3_method_4_code
def yX1_readMay : MethodName := ⟨RX1, "readMay", "(LHoldUnless$RuleBook;)Z"⟩
abbrev cX1_readRule : ByteArray := prog_3_method_5_code
def yX1_readRule : MethodName := ⟨RX1, "readRule", "(LHoldUnless$RuleBook;)Z"⟩
abbrev cX1_readSentences : ByteArray := prog_3_method_6_code
def yX1_readSentences : MethodName := ⟨RX1, "readSentences", "()I"⟩
abbrev cX1_advance : ByteArray := prog_3_method_7_code
def yX1_advance : MethodName := ⟨RX1, "advance", "()V"⟩
abbrev cX1_readWord : ByteArray := prog_3_method_8_code
def yX1_readWord : MethodName := ⟨RX1, "readWord", "()V"⟩
abbrev cX1_tokenOf : ByteArray := prog_3_method_9_code
def yX1_tokenOf : MethodName := ⟨RX1, "tokenOf", "(J)I"⟩
abbrev cX1_byteAt : ByteArray := prog_3_method_10_code
def yX1_byteAt : MethodName := ⟨RX1, "byteAt", "(I)I"⟩
abbrev cX1_isLetter : ByteArray := prog_3_method_11_code
def yX1_isLetter : MethodName := ⟨RX1, "isLetter", "(I)Z"⟩
def RX2 : String := "HoldUnless"
def TX2 : u_T := fun k => match k with
  | 0 => ("HoldUnless", "text", "LHoldUnless$Text;", true)
  | 1 => ("HoldUnless", "book", "LHoldUnless$RuleBook;", false)
  | 2 => ("HoldUnless", "draft", "LHoldUnless$RuleBook;", false)
  | 3 => ("HoldUnless", "on", "I", false)
  | 4 => ("HoldUnless", "assumed", "I", false)
  | 5 => ("HoldUnless", "imageOn", "[I", true)
  | 6 => ("HoldUnless", "imageAssumed", "[I", true)
  | 7 => ("HoldUnless", "imagesKept", "I", false)
  | _ => ("HoldUnless", "traceSum", "J", false)
def tyX2 : Nat → FieldType := fun k => match k with
  | 0 => .object "HoldUnless$Text"
  | 1 => .object "HoldUnless$RuleBook"
  | 2 => .object "HoldUnless$RuleBook"
  | 3 => .int
  | 4 => .int
  | 5 => .array .int
  | 6 => .array .int
  | 7 => .int
  | _ => .long
abbrev wsX20 : List Cond := u_ws RX2 TX2 9
theorem nmX2 : ∀ a, a < 9 → ∀ b, b < 9 → a ≠ b → (TX2 a).2.1 ≠ (TX2 b).2.1 := by decide +kernel
theorem tyX2_ok : ∀ k, k < 9 → parseFieldDescriptor (TX2 k).2.2.1 = some (tyX2 k) := by decide +kernel
abbrev cX2_init : ByteArray := prog_1_method_1_code
def yX2_init : MethodName := ⟨RX2, "<init>", "()V"⟩
abbrev cX2_type : ByteArray := prog_1_method_2_code
def yX2_type : MethodName := ⟨RX2, "type", "(JI)I"⟩
abbrev cX2_clear : ByteArray := prog_1_method_3_code
def yX2_clear : MethodName := ⟨RX2, "clear", "()I"⟩
abbrev cX2_rules : ByteArray := prog_1_method_4_code
def yX2_rules : MethodName := ⟨RX2, "rules", "()I"⟩
abbrev cX2_rule : ByteArray := prog_1_method_5_code
def yX2_rule : MethodName := ⟨RX2, "rule", "(II)I"⟩
abbrev cX2_turn : ByteArray := prog_1_method_6_code
def yX2_turn : MethodName := ⟨RX2, "turn", "(II)I"⟩
abbrev cX2_assume : ByteArray := prog_1_method_7_code
def yX2_assume : MethodName := ⟨RX2, "assume", "(II)I"⟩
abbrev cX2_sets : ByteArray := prog_1_method_8_code
def yX2_sets : MethodName := ⟨RX2, "sets", "()I"⟩
abbrev cX2_set : ByteArray := prog_1_method_9_code
def yX2_set : MethodName := ⟨RX2, "set", "(I)I"⟩
abbrev cX2_stands : ByteArray := prog_1_method_10_code
def yX2_stands : MethodName := ⟨RX2, "stands", "(I)I"⟩
abbrev cX2_holds : ByteArray := prog_1_method_11_code
def yX2_holds : MethodName := ⟨RX2, "holds", "(I)I"⟩
abbrev cX2_known : ByteArray := prog_1_method_12_code
def yX2_known : MethodName := ⟨RX2, "known", "(I)I"⟩
abbrev cX2_why : ByteArray := prog_1_method_13_code
def yX2_why : MethodName := ⟨RX2, "why", "(III)I"⟩
abbrev cX2_hangs : ByteArray := prog_1_method_14_code
def yX2_hangs : MethodName := ⟨RX2, "hangs", "(I)I"⟩
abbrev cX2_explains : ByteArray := prog_1_method_15_code
def yX2_explains : MethodName := ⟨RX2, "explains", "(II)I"⟩
abbrev cX2_givesUp : ByteArray := prog_1_method_16_code
def yX2_givesUp : MethodName := ⟨RX2, "givesUp", "()I"⟩
abbrev cX2_idle : ByteArray := prog_1_method_17_code
def yX2_idle : MethodName := ⟨RX2, "idle", "(I)I"⟩
abbrev cX2_alike : ByteArray := prog_1_method_18_code
def yX2_alike : MethodName := ⟨RX2, "alike", "(I)I"⟩
abbrev cX2_mark : ByteArray := prog_1_method_19_code
def yX2_mark : MethodName := ⟨RX2, "mark", "(II)I"⟩
abbrev cX2_keep : ByteArray := prog_1_method_20_code
def yX2_keep : MethodName := ⟨RX2, "keep", "(I)I"⟩
abbrev cX2_back : ByteArray := prog_1_method_21_code
def yX2_back : MethodName := ⟨RX2, "back", "(I)I"⟩
abbrev cX2_count : ByteArray := prog_1_method_22_code
def yX2_count : MethodName := ⟨RX2, "count", "(I)I"⟩
abbrev cX2_trace : ByteArray := prog_1_method_23_code
def yX2_trace : MethodName := ⟨RX2, "trace", "()J"⟩
abbrev cX2_isRule : ByteArray := prog_1_method_24_code
def yX2_isRule : MethodName := ⟨RX2, "isRule", "(I)Z"⟩
abbrev cX2_isSentence : ByteArray := prog_1_method_25_code
def yX2_isSentence : MethodName := ⟨RX2, "isSentence", "(I)Z"⟩
abbrev cX2_isSet : ByteArray := prog_1_method_26_code
def yX2_isSet : MethodName := ⟨RX2, "isSet", "(I)Z"⟩
abbrev cX2_isImage : ByteArray := prog_1_method_27_code
def yX2_isImage : MethodName := ⟨RX2, "isImage", "(I)Z"⟩
abbrev cX2_isBit : ByteArray := prog_1_method_28_code
def yX2_isBit : MethodName := ⟨RX2, "isBit", "(I)Z"⟩
abbrev cX2_bitOf : ByteArray := prog_1_method_29_code
def yX2_bitOf : MethodName := ⟨RX2, "bitOf", "(II)I"⟩
abbrev cX2_withBit : ByteArray := prog_1_method_30_code
def yX2_withBit : MethodName := ⟨RX2, "withBit", "(III)I"⟩
abbrev cX2_isBetter : ByteArray := prog_1_method_31_code
def yX2_isBetter : MethodName := ⟨RX2, "isBetter", "(II)Z"⟩
abbrev cX2_standingSet : ByteArray := prog_1_method_32_code
def yX2_standingSet : MethodName := ⟨RX2, "standingSet", "(I)I"⟩
abbrev cX2_standsWith : ByteArray := prog_1_method_33_code
def yX2_standsWith : MethodName := ⟨RX2, "standsWith", "(II)Z"⟩
abbrev cX2_sameSetsWith : ByteArray := prog_1_method_34_code
def yX2_sameSetsWith : MethodName := ⟨RX2, "sameSetsWith", "(II)Z"⟩
abbrev cX2_markOfRule : ByteArray := prog_1_method_35_code
def yX2_markOfRule : MethodName := ⟨RX2, "markOfRule", "(I)I"⟩
abbrev cX2_markOfLaw : ByteArray := prog_1_method_36_code
def yX2_markOfLaw : MethodName := ⟨RX2, "markOfLaw", "(I)I"⟩
abbrev cX2_markOfHabit : ByteArray := prog_1_method_37_code
def yX2_markOfHabit : MethodName := ⟨RX2, "markOfHabit", "(I)I"⟩
abbrev cX2_markOfDecree : ByteArray := prog_1_method_38_code
def yX2_markOfDecree : MethodName := ⟨RX2, "markOfDecree", "(I)I"⟩
abbrev cX2_markOfCustom : ByteArray := prog_1_method_39_code
def yX2_markOfCustom : MethodName := ⟨RX2, "markOfCustom", "(I)I"⟩
abbrev cX2_markOfOath : ByteArray := prog_1_method_40_code
def yX2_markOfOath : MethodName := ⟨RX2, "markOfOath", "(I)I"⟩
def RX3 : String := "HoldUnlessModel"
def TX3 : u_T := fun k => match k with
  | 0 => ("HoldUnlessModel", "rules", "I", false)
  | 1 => ("HoldUnlessModel", "head", "[I", true)
  | 2 => ("HoldUnlessModel", "ifs", "[I", true)
  | 3 => ("HoldUnlessModel", "unless", "[I", true)
  | 4 => ("HoldUnlessModel", "on", "I", false)
  | 5 => ("HoldUnlessModel", "may", "I", false)
  | 6 => ("HoldUnlessModel", "assumed", "I", false)
  | 7 => ("HoldUnlessModel", "text", "[I", true)
  | 8 => ("HoldUnlessModel", "texted", "I", false)
  | 9 => ("HoldUnlessModel", "isKept", "[Z", true)
  | 10 => ("HoldUnlessModel", "keptOn", "[I", true)
  | 11 => ("HoldUnlessModel", "keptAssumed", "[I", true)
  | 12 => ("HoldUnlessModel", "trace", "J", false)
  | 13 => ("HoldUnlessModel", "at", "I", false)
  | 14 => ("HoldUnlessModel", "from", "I", false)
  | 15 => ("HoldUnlessModel", "readHead", "[I", true)
  | 16 => ("HoldUnlessModel", "readIfs", "[I", true)
  | 17 => ("HoldUnlessModel", "readUnless", "[I", true)
  | 18 => ("HoldUnlessModel", "readRules", "I", false)
  | 19 => ("HoldUnlessModel", "readMay", "I", false)
  | 20 => ("HoldUnlessModel", "round", "[I", true)
  | 21 => ("HoldUnlessModel", "by", "[I", true)
  | 22 => ("HoldUnlessModel", "now", "[I", true)
  | 23 => ("HoldUnlessModel", "other", "[I", true)
  | 24 => ("HoldUnlessModel", "even", "[I", true)
  | _ => ("HoldUnlessModel", "odd", "[I", true)
def tyX3 : Nat → FieldType := fun k => match k with
  | 0 => .int
  | 1 => .array .int
  | 2 => .array .int
  | 3 => .array .int
  | 4 => .int
  | 5 => .int
  | 6 => .int
  | 7 => .array .int
  | 8 => .int
  | 9 => .array .boolean
  | 10 => .array .int
  | 11 => .array .int
  | 12 => .long
  | 13 => .int
  | 14 => .int
  | 15 => .array .int
  | 16 => .array .int
  | 17 => .array .int
  | 18 => .int
  | 19 => .int
  | 20 => .array .int
  | 21 => .array .int
  | 22 => .array .int
  | 23 => .array .int
  | 24 => .array .int
  | _ => .array .int
abbrev wsX30 : List Cond := u_ws RX3 TX3 26
theorem nmX3 : ∀ a, a < 26 → ∀ b, b < 26 → a ≠ b → (TX3 a).2.1 ≠ (TX3 b).2.1 := by decide +kernel
theorem tyX3_ok : ∀ k, k < 26 → parseFieldDescriptor (TX3 k).2.2.1 = some (tyX3 k) := by decide +kernel
abbrev cX3_init : ByteArray := prog_5_method_1_code
def yX3_init : MethodName := ⟨RX3, "<init>", "()V"⟩
abbrev cX3_in : ByteArray := prog_5_method_3_code
def yX3_in : MethodName := ⟨RX3, "in", "(JJJ)Z"⟩
abbrev cX3_has : ByteArray := prog_5_method_4_code
def yX3_has : MethodName := ⟨RX3, "has", "(II)Z"⟩
abbrev cX3_ones : ByteArray := prog_5_method_5_code
def yX3_ones : MethodName := ⟨RX3, "ones", "(I)I"⟩
abbrev cX3_isRule : ByteArray := prog_5_method_6_code
def yX3_isRule : MethodName := ⟨RX3, "isRule", "(I)Z"⟩
abbrev cX3_type : ByteArray := prog_5_method_7_code
def yX3_type : MethodName := ⟨RX3, "type", "(JI)I"⟩
abbrev cX3_clear : ByteArray := prog_5_method_8_code
def yX3_clear : MethodName := ⟨RX3, "clear", "()I"⟩
abbrev cX3_isLetter : ByteArray := prog_5_method_9_code
def yX3_isLetter : MethodName := ⟨RX3, "isLetter", "(I)Z"⟩
abbrev cX3_next : ByteArray := prog_5_method_10_code
def yX3_next : MethodName := ⟨RX3, "next", "()I"⟩
abbrev cX3_goesTo : ByteArray := prog_5_method_11_code
def yX3_goesTo : MethodName := ⟨RX3, "goesTo", "(II)I"⟩
abbrev cX3_take : ByteArray := prog_5_method_12_code
def yX3_take : MethodName := ⟨RX3, "take", "(II)V"⟩
abbrev cX3_rules : ByteArray := prog_5_method_13_code
def yX3_rules : MethodName := ⟨RX3, "rules", "()I"⟩
abbrev cX3_rule : ByteArray := prog_5_method_14_code
def yX3_rule : MethodName := ⟨RX3, "rule", "(II)I"⟩
abbrev cX3_turn : ByteArray := prog_5_method_15_code
def yX3_turn : MethodName := ⟨RX3, "turn", "(II)I"⟩
abbrev cX3_assume : ByteArray := prog_5_method_16_code
def yX3_assume : MethodName := ⟨RX3, "assume", "(II)I"⟩
abbrev cX3_grows : ByteArray := prog_5_method_17_code
def yX3_grows : MethodName := ⟨RX3, "grows", "(III)I"⟩
abbrev cX3_isBanned : ByteArray := prog_5_method_18_code
def yX3_isBanned : MethodName := ⟨RX3, "isBanned", "(II)Z"⟩
abbrev cX3_doesStand : ByteArray := prog_5_method_19_code
def yX3_doesStand : MethodName := ⟨RX3, "doesStand", "(III)Z"⟩
abbrev cX3_findAll : ByteArray := prog_5_method_20_code
def yX3_findAll : MethodName := ⟨RX3, "findAll", "([III)I"⟩
abbrev cX3_ofAll : ByteArray := prog_5_method_21_code
def yX3_ofAll : MethodName := ⟨RX3, "ofAll", "(I)I"⟩
abbrev cX3_sets : ByteArray := prog_5_method_22_code
def yX3_sets : MethodName := ⟨RX3, "sets", "()I"⟩
abbrev cX3_set : ByteArray := prog_5_method_23_code
def yX3_set : MethodName := ⟨RX3, "set", "(I)I"⟩
abbrev cX3_stands : ByteArray := prog_5_method_24_code
def yX3_stands : MethodName := ⟨RX3, "stands", "(I)I"⟩
abbrev cX3_holds : ByteArray := prog_5_method_25_code
def yX3_holds : MethodName := ⟨RX3, "holds", "(I)I"⟩
abbrev cX3_known : ByteArray := prog_5_method_26_code
def yX3_known : MethodName := ⟨RX3, "known", "(I)I"⟩
abbrev cX3_why : ByteArray := prog_5_method_27_code
def yX3_why : MethodName := ⟨RX3, "why", "(III)I"⟩
abbrev cX3_findHangs : ByteArray := prog_5_method_28_code
def yX3_findHangs : MethodName := ⟨RX3, "findHangs", "(Z)V"⟩
abbrev cX3_hangs : ByteArray := prog_5_method_29_code
def yX3_hangs : MethodName := ⟨RX3, "hangs", "(I)I"⟩
abbrev cX3_isInSome : ByteArray := prog_5_method_30_code
def yX3_isInSome : MethodName := ⟨RX3, "isInSome", "(II)Z"⟩
abbrev cX3_explains : ByteArray := prog_5_method_31_code
def yX3_explains : MethodName := ⟨RX3, "explains", "(II)I"⟩
abbrev cX3_isAny : ByteArray := prog_5_method_32_code
def yX3_isAny : MethodName := ⟨RX3, "isAny", "(I)Z"⟩
abbrev cX3_givesUp : ByteArray := prog_5_method_33_code
def yX3_givesUp : MethodName := ⟨RX3, "givesUp", "()I"⟩
abbrev cX3_areSame : ByteArray := prog_5_method_34_code
def yX3_areSame : MethodName := ⟨RX3, "areSame", "(II)Z"⟩
abbrev cX3_idle : ByteArray := prog_5_method_35_code
def yX3_idle : MethodName := ⟨RX3, "idle", "(I)I"⟩
abbrev cX3_alike : ByteArray := prog_5_method_36_code
def yX3_alike : MethodName := ⟨RX3, "alike", "(I)I"⟩
abbrev cX3_mark : ByteArray := prog_5_method_37_code
def yX3_mark : MethodName := ⟨RX3, "mark", "(II)I"⟩
abbrev cX3_keep : ByteArray := prog_5_method_38_code
def yX3_keep : MethodName := ⟨RX3, "keep", "(I)I"⟩
abbrev cX3_back : ByteArray := prog_5_method_39_code
def yX3_back : MethodName := ⟨RX3, "back", "(I)I"⟩
abbrev cX3_count : ByteArray := prog_5_method_40_code
def yX3_count : MethodName := ⟨RX3, "count", "(I)I"⟩
abbrev cX3_trace : ByteArray := prog_5_method_41_code
def yX3_trace : MethodName := ⟨RX3, "trace", "()J"⟩
def RJ6 : String := "java/lang/Integer"
def TJ6 : u_T := fun k => match k with
  | _ => ("", "", "", false)
def tyJ6 : Nat → FieldType := fun k => match k with
  | _ => .int
abbrev wsJ60 : List Cond := u_ws RJ6 TJ6 0
theorem nmJ6 : ∀ a, a < 0 → ∀ b, b < 0 → a ≠ b → (TJ6 a).2.1 ≠ (TJ6 b).2.1 := by decide +kernel
theorem tyJ6_ok : ∀ k, k < 0 → parseFieldDescriptor (TJ6 k).2.2.1 = some (tyJ6 k) := by decide +kernel
abbrev cJ6_bitCount_0f7a4 : ByteArray := prog_6_method_49_code
def yJ6_bitCount_0f7a4 : MethodName := ⟨RJ6, "bitCount", "(I)I"⟩
def RL : String := "HoldUnlessLaw"
abbrev cL_law : ByteArray := code
def yL_law : MethodName := ⟨RL, "law", "([I)Z"⟩
def wsX0_init : List Cond := .code yX0_init cX0_init 1 none :: ([.methodLink RX0 3 objectInit, .instanceMethod objectInit, .code objectInit ⟨#[0xb1]⟩ 1 none, .arrayClass .int, .fieldLink RX0 9 "HoldUnless$RuleBook" "head" "[I", .fieldLink RX0 15 "HoldUnless$RuleBook" "ifs" "[I", .fieldLink RX0 18 "HoldUnless$RuleBook" "unless" "[I"] ++ wsX00)
def wsX0_forgetAll : List Cond := .code yX0_forgetAll cX0_forgetAll 1 none :: ([.fieldLink RX0 21 "HoldUnless$RuleBook" "size" "I", .fieldLink RX0 25 "HoldUnless$RuleBook" "may" "I"] ++ wsX00)
def wsX0_hasRoom : List Cond := .code yX0_hasRoom cX0_hasRoom 1 (some .boolean) :: ([.fieldLink RX0 21 "HoldUnless$RuleBook" "size" "I"] ++ wsX00)
def wsX0_add : List Cond := .code yX0_add cX0_add 4 none :: ([.fieldLink RX0 9 "HoldUnless$RuleBook" "head" "[I", .fieldLink RX0 21 "HoldUnless$RuleBook" "size" "I", .fieldLink RX0 15 "HoldUnless$RuleBook" "ifs" "[I", .fieldLink RX0 18 "HoldUnless$RuleBook" "unless" "[I", .methodLink RX0 28 yX0_hasRoom, .instanceMethod yX0_hasRoom, .selects RX0 yX0_hasRoom yX0_hasRoom, .initialized RX0, .code yX0_hasRoom cX0_hasRoom 1 (some .boolean)] ++ wsX00)
def wsX0_bodyHolds : List Cond := .code yX0_bodyHolds cX0_bodyHolds 4 (some .boolean) :: ([.fieldLink RX0 15 "HoldUnless$RuleBook" "ifs" "[I", .fieldLink RX0 18 "HoldUnless$RuleBook" "unless" "[I"] ++ wsX00)
def wsX2_bitOf : List Cond := .code yX2_bitOf cX2_bitOf 2 (some .int) :: ([])
def wsX0_nextRound : List Cond := .code yX0_nextRound cX0_nextRound 6 (some .int) :: ([.fieldLink RX0 21 "HoldUnless$RuleBook" "size" "I", .fieldLink RX0 9 "HoldUnless$RuleBook" "head" "[I", .static yX2_bitOf, .initialized RX2, .code yX2_bitOf cX2_bitOf 2 (some .int), .methodLink RX0 36 yX0_bodyHolds, .instanceMethod yX0_bodyHolds, .selects RX0 yX0_bodyHolds yX0_bodyHolds, .initialized RX0, .code yX0_bodyHolds cX0_bodyHolds 4 (some .boolean), .fieldLink RX0 15 "HoldUnless$RuleBook" "ifs" "[I", .fieldLink RX0 18 "HoldUnless$RuleBook" "unless" "[I"] ++ wsX00)
def wsX0_comesOf : List Cond := .code yX0_comesOf cX0_comesOf 7 (some .int) :: ([.methodLink RX0 40 yX0_nextRound, .instanceMethod yX0_nextRound, .selects RX0 yX0_nextRound yX0_nextRound, .initialized RX0, .code yX0_nextRound cX0_nextRound 6 (some .int), .fieldLink RX0 21 "HoldUnless$RuleBook" "size" "I", .fieldLink RX0 9 "HoldUnless$RuleBook" "head" "[I", .static yX2_bitOf, .initialized RX2, .code yX2_bitOf cX2_bitOf 2 (some .int), .methodLink RX0 36 yX0_bodyHolds, .instanceMethod yX0_bodyHolds, .selects RX0 yX0_bodyHolds yX0_bodyHolds, .code yX0_bodyHolds cX0_bodyHolds 4 (some .boolean), .fieldLink RX0 15 "HoldUnless$RuleBook" "ifs" "[I", .fieldLink RX0 18 "HoldUnless$RuleBook" "unless" "[I"] ++ wsX00)
def wsX0_brokenBy : List Cond := .code yX0_brokenBy cX0_brokenBy 5 (some .int) :: ([.fieldLink RX0 21 "HoldUnless$RuleBook" "size" "I", .fieldLink RX0 9 "HoldUnless$RuleBook" "head" "[I", .static yX2_bitOf, .initialized RX2, .code yX2_bitOf cX2_bitOf 2 (some .int), .methodLink RX0 36 yX0_bodyHolds, .instanceMethod yX0_bodyHolds, .selects RX0 yX0_bodyHolds yX0_bodyHolds, .initialized RX0, .code yX0_bodyHolds cX0_bodyHolds 4 (some .boolean), .fieldLink RX0 15 "HoldUnless$RuleBook" "ifs" "[I", .fieldLink RX0 18 "HoldUnless$RuleBook" "unless" "[I"] ++ wsX00)
def wsX0_upholds_r1 : List Cond := [Cond.fieldLink RX0 25 "HoldUnless$RuleBook" "may" "I", Cond.methodLink RX0 44 yX0_brokenBy, Cond.instanceMethod yX0_brokenBy, Cond.selects RX0 yX0_brokenBy yX0_brokenBy, Cond.initialized RX0, Cond.code yX0_brokenBy cX0_brokenBy 5 (some .int), Cond.fieldLink RX0 21 "HoldUnless$RuleBook" "size" "I", Cond.fieldLink RX0 9 "HoldUnless$RuleBook" "head" "[I", Cond.static yX2_bitOf, Cond.initialized RX2, Cond.code yX2_bitOf cX2_bitOf 2 (some .int), Cond.methodLink RX0 36 yX0_bodyHolds, Cond.instanceMethod yX0_bodyHolds, Cond.selects RX0 yX0_bodyHolds yX0_bodyHolds, Cond.code yX0_bodyHolds cX0_bodyHolds 4 (some .boolean), Cond.fieldLink RX0 15 "HoldUnless$RuleBook" "ifs" "[I", Cond.fieldLink RX0 18 "HoldUnless$RuleBook" "unless" "[I", Cond.methodLink RX0 47 yX0_comesOf, Cond.instanceMethod yX0_comesOf, Cond.selects RX0 yX0_comesOf yX0_comesOf, Cond.code yX0_comesOf cX0_comesOf 7 (some .int), Cond.methodLink RX0 40 yX0_nextRound, Cond.instanceMethod yX0_nextRound, Cond.selects RX0 yX0_nextRound yX0_nextRound]
def wsX0_upholds_r2 : List Cond := [Cond.code yX0_nextRound cX0_nextRound 6 (some .int)]
def wsX0_upholds : List Cond := .code yX0_upholds cX0_upholds 4 (some .boolean) :: ((wsX0_upholds_r1 ++ wsX0_upholds_r2) ++ wsX00)
def wsX0_firstRuleBringing : List Cond := .code yX0_firstRuleBringing cX0_firstRuleBringing 6 (some .int) :: ([.fieldLink RX0 21 "HoldUnless$RuleBook" "size" "I", .fieldLink RX0 9 "HoldUnless$RuleBook" "head" "[I", .static yX2_bitOf, .initialized RX2, .code yX2_bitOf cX2_bitOf 2 (some .int), .methodLink RX0 36 yX0_bodyHolds, .instanceMethod yX0_bodyHolds, .selects RX0 yX0_bodyHolds yX0_bodyHolds, .initialized RX0, .code yX0_bodyHolds cX0_bodyHolds 4 (some .boolean), .fieldLink RX0 15 "HoldUnless$RuleBook" "ifs" "[I", .fieldLink RX0 18 "HoldUnless$RuleBook" "unless" "[I"] ++ wsX00)
def wsX0_partUnder : List Cond := .code yX0_partUnder cX0_partUnder 6 (some .int) :: ([.fieldLink RX0 21 "HoldUnless$RuleBook" "size" "I", .fieldLink RX0 9 "HoldUnless$RuleBook" "head" "[I", .static yX2_bitOf, .initialized RX2, .code yX2_bitOf cX2_bitOf 2 (some .int)] ++ wsX00)
def wsX0_ifsUnder : List Cond := .code yX0_ifsUnder cX0_ifsUnder 3 (some .int) :: ([.fieldLink RX0 15 "HoldUnless$RuleBook" "ifs" "[I", .methodLink RX0 50 yX0_partUnder, .instanceMethod yX0_partUnder, .selects RX0 yX0_partUnder yX0_partUnder, .initialized RX0, .code yX0_partUnder cX0_partUnder 6 (some .int), .fieldLink RX0 21 "HoldUnless$RuleBook" "size" "I", .fieldLink RX0 9 "HoldUnless$RuleBook" "head" "[I", .static yX2_bitOf, .initialized RX2, .code yX2_bitOf cX2_bitOf 2 (some .int)] ++ wsX00)
def wsX0_unlessUnder : List Cond := .code yX0_unlessUnder cX0_unlessUnder 3 (some .int) :: ([.fieldLink RX0 18 "HoldUnless$RuleBook" "unless" "[I", .methodLink RX0 50 yX0_partUnder, .instanceMethod yX0_partUnder, .selects RX0 yX0_partUnder yX0_partUnder, .initialized RX0, .code yX0_partUnder cX0_partUnder 6 (some .int), .fieldLink RX0 21 "HoldUnless$RuleBook" "size" "I", .fieldLink RX0 9 "HoldUnless$RuleBook" "head" "[I", .static yX2_bitOf, .initialized RX2, .code yX2_bitOf cX2_bitOf 2 (some .int)] ++ wsX00)
def wsX0_hangsByIf : List Cond := .code yX0_hangsByIf cX0_hangsByIf 5 (some .boolean) :: ([.methodLink RX0 54 yX0_ifsUnder, .instanceMethod yX0_ifsUnder, .selects RX0 yX0_ifsUnder yX0_ifsUnder, .initialized RX0, .code yX0_ifsUnder cX0_ifsUnder 3 (some .int), .fieldLink RX0 15 "HoldUnless$RuleBook" "ifs" "[I", .methodLink RX0 50 yX0_partUnder, .instanceMethod yX0_partUnder, .selects RX0 yX0_partUnder yX0_partUnder, .code yX0_partUnder cX0_partUnder 6 (some .int), .fieldLink RX0 21 "HoldUnless$RuleBook" "size" "I", .fieldLink RX0 9 "HoldUnless$RuleBook" "head" "[I", .static yX2_bitOf, .initialized RX2, .code yX2_bitOf cX2_bitOf 2 (some .int)] ++ wsX00)
def wsX0_isTangled : List Cond := .code yX0_isTangled cX0_isTangled 7 (some .boolean) :: ([.methodLink RX0 54 yX0_ifsUnder, .instanceMethod yX0_ifsUnder, .selects RX0 yX0_ifsUnder yX0_ifsUnder, .initialized RX0, .code yX0_ifsUnder cX0_ifsUnder 3 (some .int), .fieldLink RX0 15 "HoldUnless$RuleBook" "ifs" "[I", .methodLink RX0 50 yX0_partUnder, .instanceMethod yX0_partUnder, .selects RX0 yX0_partUnder yX0_partUnder, .code yX0_partUnder cX0_partUnder 6 (some .int), .fieldLink RX0 21 "HoldUnless$RuleBook" "size" "I", .fieldLink RX0 9 "HoldUnless$RuleBook" "head" "[I", .static yX2_bitOf, .initialized RX2, .code yX2_bitOf cX2_bitOf 2 (some .int), .methodLink RX0 57 yX0_unlessUnder, .instanceMethod yX0_unlessUnder, .selects RX0 yX0_unlessUnder yX0_unlessUnder, .code yX0_unlessUnder cX0_unlessUnder 3 (some .int), .fieldLink RX0 18 "HoldUnless$RuleBook" "unless" "[I"] ++ wsX00)
def wsX1_init : List Cond := .code yX1_init cX1_init 1 none :: ([.methodLink RX1 3 objectInit, .instanceMethod objectInit, .code objectInit ⟨#[0xb1]⟩ 1 none, .arrayClass .byte, .fieldLink RX1 9 "HoldUnless$Text" "bytes" "[B"] ++ wsX10)
def wsX1_append : List Cond := .code yX1_append cX1_append 2 none :: ([.fieldLink RX1 15 "HoldUnless$Text" "length" "I", .fieldLink RX1 9 "HoldUnless$Text" "bytes" "[B"] ++ wsX10)
def wsX1_byteAt : List Cond := .code yX1_byteAt cX1_byteAt 2 (some .int) :: ([.fieldLink RX1 9 "HoldUnless$Text" "bytes" "[B"] ++ wsX10)
def wsX1_isLetter : List Cond := .code yX1_isLetter cX1_isLetter 1 (some .boolean) :: ([])
def wsX1_tokenOf : List Cond := .code yX1_tokenOf cX1_tokenOf 2 (some .int) :: ([.constantLong RX1 76 (97), .constantLong RX1 78 (105), .constantLong RX1 80 (26982), .constantLong RX1 82 (129117125440371), .constantLong RX1 84 (474148660594), .constantLong RX1 86 (7168377)])
def wsX1_readWord : List Cond := .code yX1_readWord cX1_readWord 3 none :: ([.fieldLink RX1 24 "HoldUnless$Text" "place" "I", .fieldLink RX1 15 "HoldUnless$Text" "length" "I", .fieldLink RX1 30 "HoldUnless$Text" "token" "I", .methodLink RX1 59 yX1_byteAt, .instanceMethod yX1_byteAt, .selects RX1 yX1_byteAt yX1_byteAt, .initialized RX1, .code yX1_byteAt cX1_byteAt 2 (some .int), .fieldLink RX1 9 "HoldUnless$Text" "bytes" "[B", .methodLink RX1 66 yX1_isLetter, .static yX1_isLetter, .code yX1_isLetter cX1_isLetter 1 (some .boolean), .methodLink RX1 72 yX1_tokenOf, .static yX1_tokenOf, .code yX1_tokenOf cX1_tokenOf 2 (some .int), .constantLong RX1 76 (97), .constantLong RX1 78 (105), .constantLong RX1 80 (26982), .constantLong RX1 82 (129117125440371), .constantLong RX1 84 (474148660594), .constantLong RX1 86 (7168377)] ++ wsX10)
def wsX1_advance_r1 : List Cond := [Cond.fieldLink RX1 24 "HoldUnless$Text" "place" "I", Cond.fieldLink RX1 15 "HoldUnless$Text" "length" "I", Cond.fieldLink RX1 63 "HoldUnless$Text" "tokenPlace" "I", Cond.fieldLink RX1 30 "HoldUnless$Text" "token" "I", Cond.methodLink RX1 59 yX1_byteAt, Cond.instanceMethod yX1_byteAt, Cond.selects RX1 yX1_byteAt yX1_byteAt, Cond.initialized RX1, Cond.code yX1_byteAt cX1_byteAt 2 (some .int), Cond.fieldLink RX1 9 "HoldUnless$Text" "bytes" "[B", Cond.methodLink RX1 66 yX1_isLetter, Cond.static yX1_isLetter, Cond.code yX1_isLetter cX1_isLetter 1 (some .boolean), Cond.methodLink RX1 69 yX1_readWord, Cond.instanceMethod yX1_readWord, Cond.selects RX1 yX1_readWord yX1_readWord, Cond.code yX1_readWord cX1_readWord 3 none, Cond.methodLink RX1 72 yX1_tokenOf, Cond.static yX1_tokenOf, Cond.code yX1_tokenOf cX1_tokenOf 2 (some .int), Cond.constantLong RX1 76 (97), Cond.constantLong RX1 78 (105), Cond.constantLong RX1 80 (26982), Cond.constantLong RX1 82 (129117125440371)]
def wsX1_advance_r2 : List Cond := [Cond.constantLong RX1 84 (474148660594), Cond.constantLong RX1 86 (7168377)]
def wsX1_advance : List Cond := .code yX1_advance cX1_advance 1 none :: ((wsX1_advance_r1 ++ wsX1_advance_r2) ++ wsX10)
def wsX2_isSentence : List Cond := .code yX2_isSentence cX2_isSentence 1 (some .boolean) :: ([])
def wsX1_readSentences_r1 : List Cond := [Cond.fieldLink RX1 30 "HoldUnless$Text" "token" "I", Cond.static yX2_isSentence, Cond.initialized RX2, Cond.code yX2_isSentence cX2_isSentence 1 (some .boolean), Cond.methodLink RX1 27 yX1_advance, Cond.instanceMethod yX1_advance, Cond.selects RX1 yX1_advance yX1_advance, Cond.initialized RX1, Cond.code yX1_advance cX1_advance 1 none, Cond.fieldLink RX1 24 "HoldUnless$Text" "place" "I", Cond.fieldLink RX1 15 "HoldUnless$Text" "length" "I", Cond.fieldLink RX1 63 "HoldUnless$Text" "tokenPlace" "I", Cond.methodLink RX1 59 yX1_byteAt, Cond.instanceMethod yX1_byteAt, Cond.selects RX1 yX1_byteAt yX1_byteAt, Cond.code yX1_byteAt cX1_byteAt 2 (some .int), Cond.fieldLink RX1 9 "HoldUnless$Text" "bytes" "[B", Cond.methodLink RX1 66 yX1_isLetter, Cond.static yX1_isLetter, Cond.code yX1_isLetter cX1_isLetter 1 (some .boolean), Cond.methodLink RX1 69 yX1_readWord, Cond.instanceMethod yX1_readWord, Cond.selects RX1 yX1_readWord yX1_readWord, Cond.code yX1_readWord cX1_readWord 3 none]
def wsX1_readSentences_r2 : List Cond := [Cond.methodLink RX1 72 yX1_tokenOf, Cond.static yX1_tokenOf, Cond.code yX1_tokenOf cX1_tokenOf 2 (some .int), Cond.constantLong RX1 76 (97), Cond.constantLong RX1 78 (105), Cond.constantLong RX1 80 (26982), Cond.constantLong RX1 82 (129117125440371), Cond.constantLong RX1 84 (474148660594), Cond.constantLong RX1 86 (7168377)]
def wsX1_readSentences : List Cond := .code yX1_readSentences cX1_readSentences 3 (some .int) :: ((wsX1_readSentences_r1 ++ wsX1_readSentences_r2) ++ wsX10)
def wsX1_readMay_r1 : List Cond := [Cond.fieldLink RX1 30 "HoldUnless$Text" "token" "I", Cond.methodLink RX1 27 yX1_advance, Cond.instanceMethod yX1_advance, Cond.selects RX1 yX1_advance yX1_advance, Cond.initialized RX1, Cond.code yX1_advance cX1_advance 1 none, Cond.fieldLink RX1 24 "HoldUnless$Text" "place" "I", Cond.fieldLink RX1 15 "HoldUnless$Text" "length" "I", Cond.fieldLink RX1 63 "HoldUnless$Text" "tokenPlace" "I", Cond.methodLink RX1 59 yX1_byteAt, Cond.instanceMethod yX1_byteAt, Cond.selects RX1 yX1_byteAt yX1_byteAt, Cond.code yX1_byteAt cX1_byteAt 2 (some .int), Cond.fieldLink RX1 9 "HoldUnless$Text" "bytes" "[B", Cond.methodLink RX1 66 yX1_isLetter, Cond.static yX1_isLetter, Cond.code yX1_isLetter cX1_isLetter 1 (some .boolean), Cond.methodLink RX1 69 yX1_readWord, Cond.instanceMethod yX1_readWord, Cond.selects RX1 yX1_readWord yX1_readWord, Cond.code yX1_readWord cX1_readWord 3 none, Cond.methodLink RX1 72 yX1_tokenOf, Cond.static yX1_tokenOf, Cond.code yX1_tokenOf cX1_tokenOf 2 (some .int)]
def wsX1_readMay_r2 : List Cond := [Cond.constantLong RX1 76 (97), Cond.constantLong RX1 78 (105), Cond.constantLong RX1 80 (26982), Cond.constantLong RX1 82 (129117125440371), Cond.constantLong RX1 84 (474148660594), Cond.constantLong RX1 86 (7168377), Cond.methodLink RX1 40 yX1_readSentences, Cond.instanceMethod yX1_readSentences, Cond.selects RX1 yX1_readSentences yX1_readSentences, Cond.code yX1_readSentences cX1_readSentences 3 (some .int), Cond.static yX2_isSentence, Cond.initialized RX2, Cond.code yX2_isSentence cX2_isSentence 1 (some .boolean)]
def wsX1_readMay : List Cond := .code yX1_readMay cX1_readMay 3 (some .boolean) :: ((wsX1_readMay_r1 ++ wsX1_readMay_r2) ++ wsX10 ++ wsX00)
def wsX1_readRule_r1 : List Cond := [Cond.fieldLink RX1 30 "HoldUnless$Text" "token" "I", Cond.static yX2_isSentence, Cond.initialized RX2, Cond.code yX2_isSentence cX2_isSentence 1 (some .boolean), Cond.instanceMethod yX0_hasRoom, Cond.initialized RX0, Cond.selects RX0 yX0_hasRoom yX0_hasRoom, Cond.code yX0_hasRoom cX0_hasRoom 1 (some .boolean), Cond.fieldLink RX0 21 "HoldUnless$RuleBook" "size" "I", Cond.methodLink RX1 27 yX1_advance, Cond.instanceMethod yX1_advance, Cond.selects RX1 yX1_advance yX1_advance, Cond.initialized RX1, Cond.code yX1_advance cX1_advance 1 none, Cond.fieldLink RX1 24 "HoldUnless$Text" "place" "I", Cond.fieldLink RX1 15 "HoldUnless$Text" "length" "I", Cond.fieldLink RX1 63 "HoldUnless$Text" "tokenPlace" "I", Cond.methodLink RX1 59 yX1_byteAt, Cond.instanceMethod yX1_byteAt, Cond.selects RX1 yX1_byteAt yX1_byteAt, Cond.code yX1_byteAt cX1_byteAt 2 (some .int), Cond.fieldLink RX1 9 "HoldUnless$Text" "bytes" "[B", Cond.methodLink RX1 66 yX1_isLetter, Cond.static yX1_isLetter]
def wsX1_readRule_r2 : List Cond := [Cond.code yX1_isLetter cX1_isLetter 1 (some .boolean), Cond.methodLink RX1 69 yX1_readWord, Cond.instanceMethod yX1_readWord, Cond.selects RX1 yX1_readWord yX1_readWord, Cond.code yX1_readWord cX1_readWord 3 none, Cond.methodLink RX1 72 yX1_tokenOf, Cond.static yX1_tokenOf, Cond.code yX1_tokenOf cX1_tokenOf 2 (some .int), Cond.constantLong RX1 76 (97), Cond.constantLong RX1 78 (105), Cond.constantLong RX1 80 (26982), Cond.constantLong RX1 82 (129117125440371), Cond.constantLong RX1 84 (474148660594), Cond.constantLong RX1 86 (7168377), Cond.methodLink RX1 40 yX1_readSentences, Cond.instanceMethod yX1_readSentences, Cond.selects RX1 yX1_readSentences yX1_readSentences, Cond.code yX1_readSentences cX1_readSentences 3 (some .int), Cond.instanceMethod yX0_add, Cond.selects RX0 yX0_add yX0_add, Cond.code yX0_add cX0_add 4 none, Cond.fieldLink RX0 9 "HoldUnless$RuleBook" "head" "[I", Cond.fieldLink RX0 15 "HoldUnless$RuleBook" "ifs" "[I", Cond.fieldLink RX0 18 "HoldUnless$RuleBook" "unless" "[I"]
def wsX1_readRule_r3 : List Cond := [Cond.methodLink RX0 28 yX0_hasRoom]
def wsX1_readRule : List Cond := .code yX1_readRule cX1_readRule 7 (some .boolean) :: ((wsX1_readRule_r1 ++ (wsX1_readRule_r2 ++ wsX1_readRule_r3)) ++ wsX10 ++ wsX00)
def wsX1_readInto_r1 : List Cond := [Cond.fieldLink RX1 24 "HoldUnless$Text" "place" "I", Cond.fieldLink RX1 30 "HoldUnless$Text" "token" "I", Cond.instanceMethod yX0_forgetAll, Cond.initialized RX0, Cond.selects RX0 yX0_forgetAll yX0_forgetAll, Cond.code yX0_forgetAll cX0_forgetAll 1 none, Cond.fieldLink RX0 21 "HoldUnless$RuleBook" "size" "I", Cond.fieldLink RX0 25 "HoldUnless$RuleBook" "may" "I", Cond.methodLink RX1 27 yX1_advance, Cond.instanceMethod yX1_advance, Cond.selects RX1 yX1_advance yX1_advance, Cond.initialized RX1, Cond.code yX1_advance cX1_advance 1 none, Cond.fieldLink RX1 15 "HoldUnless$Text" "length" "I", Cond.fieldLink RX1 63 "HoldUnless$Text" "tokenPlace" "I", Cond.methodLink RX1 59 yX1_byteAt, Cond.instanceMethod yX1_byteAt, Cond.selects RX1 yX1_byteAt yX1_byteAt, Cond.code yX1_byteAt cX1_byteAt 2 (some .int), Cond.fieldLink RX1 9 "HoldUnless$Text" "bytes" "[B", Cond.methodLink RX1 66 yX1_isLetter, Cond.static yX1_isLetter, Cond.code yX1_isLetter cX1_isLetter 1 (some .boolean), Cond.methodLink RX1 69 yX1_readWord]
def wsX1_readInto_r2 : List Cond := [Cond.instanceMethod yX1_readWord, Cond.selects RX1 yX1_readWord yX1_readWord, Cond.code yX1_readWord cX1_readWord 3 none, Cond.methodLink RX1 72 yX1_tokenOf, Cond.static yX1_tokenOf, Cond.code yX1_tokenOf cX1_tokenOf 2 (some .int), Cond.constantLong RX1 76 (97), Cond.constantLong RX1 78 (105), Cond.constantLong RX1 80 (26982), Cond.constantLong RX1 82 (129117125440371), Cond.constantLong RX1 84 (474148660594), Cond.constantLong RX1 86 (7168377), Cond.methodLink RX1 33 yX1_readMay, Cond.instanceMethod yX1_readMay, Cond.selects RX1 yX1_readMay yX1_readMay, Cond.code yX1_readMay cX1_readMay 3 (some .boolean), Cond.methodLink RX1 40 yX1_readSentences, Cond.instanceMethod yX1_readSentences, Cond.selects RX1 yX1_readSentences yX1_readSentences, Cond.code yX1_readSentences cX1_readSentences 3 (some .int), Cond.static yX2_isSentence, Cond.initialized RX2, Cond.code yX2_isSentence cX2_isSentence 1 (some .boolean), Cond.methodLink RX1 37 yX1_readRule]
def wsX1_readInto_r3 : List Cond := [Cond.instanceMethod yX1_readRule, Cond.selects RX1 yX1_readRule yX1_readRule, Cond.code yX1_readRule cX1_readRule 7 (some .boolean), Cond.instanceMethod yX0_hasRoom, Cond.selects RX0 yX0_hasRoom yX0_hasRoom, Cond.code yX0_hasRoom cX0_hasRoom 1 (some .boolean), Cond.instanceMethod yX0_add, Cond.selects RX0 yX0_add yX0_add, Cond.code yX0_add cX0_add 4 none, Cond.fieldLink RX0 9 "HoldUnless$RuleBook" "head" "[I", Cond.fieldLink RX0 15 "HoldUnless$RuleBook" "ifs" "[I", Cond.fieldLink RX0 18 "HoldUnless$RuleBook" "unless" "[I", Cond.methodLink RX0 28 yX0_hasRoom]
def wsX1_readInto : List Cond := .code yX1_readInto cX1_readInto 4 (some .int) :: ((wsX1_readInto_r1 ++ (wsX1_readInto_r2 ++ wsX1_readInto_r3)) ++ wsX10 ++ wsX00)
def wsX2_init_r1 : List Cond := [Cond.methodLink RX2 1 objectInit, Cond.instanceMethod objectInit, Cond.code objectInit ⟨#[0xb1]⟩ 1 none, Cond.classLink RX2 7 RX1, Cond.instantiable RX1 5, Cond.initialized RX1, Cond.fieldLink RX2 10 "HoldUnless" "text" "LHoldUnless$Text;", Cond.classLink RX2 16 RX0, Cond.instantiable RX0 5, Cond.initialized RX0, Cond.fieldLink RX2 19 "HoldUnless" "book" "LHoldUnless$RuleBook;", Cond.fieldLink RX2 23 "HoldUnless" "draft" "LHoldUnless$RuleBook;", Cond.arrayClass .int, Cond.fieldLink RX2 26 "HoldUnless" "imageOn" "[I", Cond.fieldLink RX2 30 "HoldUnless" "imageAssumed" "[I", Cond.instanceMethod yX1_init, Cond.code yX1_init cX1_init 1 none, Cond.methodLink RX1 3 objectInit, Cond.arrayClass .byte, Cond.fieldLink RX1 9 "HoldUnless$Text" "bytes" "[B", Cond.instanceMethod yX0_init, Cond.code yX0_init cX0_init 1 none, Cond.methodLink RX0 3 objectInit, Cond.fieldLink RX0 9 "HoldUnless$RuleBook" "head" "[I"]
def wsX2_init_r2 : List Cond := [Cond.fieldLink RX0 15 "HoldUnless$RuleBook" "ifs" "[I", Cond.fieldLink RX0 18 "HoldUnless$RuleBook" "unless" "[I"]
def wsX2_init : List Cond := .code yX2_init cX2_init 1 none :: ((wsX2_init_r1 ++ wsX2_init_r2) ++ wsX10 ++ wsX20 ++ wsX00)
def wsX2_type : List Cond := .code yX2_type cX2_type 5 (some .int) :: ([.fieldLink RX2 10 "HoldUnless" "text" "LHoldUnless$Text;", .instanceMethod yX1_append, .initialized RX1, .selects RX1 yX1_append yX1_append, .code yX1_append cX1_append 2 none, .fieldLink RX1 15 "HoldUnless$Text" "length" "I", .fieldLink RX1 9 "HoldUnless$Text" "bytes" "[B"] ++ wsX20 ++ wsX10)
def wsX2_clear : List Cond := .code yX2_clear cX2_clear 2 (some .int) :: ([.fieldLink RX2 10 "HoldUnless" "text" "LHoldUnless$Text;"] ++ wsX20 ++ wsX10)
def wsX2_rules_r1 : List Cond := [Cond.fieldLink RX2 10 "HoldUnless" "text" "LHoldUnless$Text;", Cond.fieldLink RX2 23 "HoldUnless" "draft" "LHoldUnless$RuleBook;", Cond.fieldLink RX2 19 "HoldUnless" "book" "LHoldUnless$RuleBook;", Cond.fieldLink RX2 51 "HoldUnless" "on" "I", Cond.fieldLink RX2 54 "HoldUnless" "assumed" "I", Cond.fieldLink RX2 57 "HoldUnless" "imagesKept" "I", Cond.instanceMethod yX1_readInto, Cond.initialized RX1, Cond.selects RX1 yX1_readInto yX1_readInto, Cond.code yX1_readInto cX1_readInto 4 (some .int), Cond.fieldLink RX1 24 "HoldUnless$Text" "place" "I", Cond.fieldLink RX1 30 "HoldUnless$Text" "token" "I", Cond.instanceMethod yX0_forgetAll, Cond.initialized RX0, Cond.selects RX0 yX0_forgetAll yX0_forgetAll, Cond.code yX0_forgetAll cX0_forgetAll 1 none, Cond.fieldLink RX0 21 "HoldUnless$RuleBook" "size" "I", Cond.fieldLink RX0 25 "HoldUnless$RuleBook" "may" "I", Cond.methodLink RX1 27 yX1_advance, Cond.instanceMethod yX1_advance, Cond.selects RX1 yX1_advance yX1_advance, Cond.code yX1_advance cX1_advance 1 none, Cond.fieldLink RX1 15 "HoldUnless$Text" "length" "I", Cond.fieldLink RX1 63 "HoldUnless$Text" "tokenPlace" "I"]
def wsX2_rules_r2 : List Cond := [Cond.methodLink RX1 59 yX1_byteAt, Cond.instanceMethod yX1_byteAt, Cond.selects RX1 yX1_byteAt yX1_byteAt, Cond.code yX1_byteAt cX1_byteAt 2 (some .int), Cond.fieldLink RX1 9 "HoldUnless$Text" "bytes" "[B", Cond.methodLink RX1 66 yX1_isLetter, Cond.static yX1_isLetter, Cond.code yX1_isLetter cX1_isLetter 1 (some .boolean), Cond.methodLink RX1 69 yX1_readWord, Cond.instanceMethod yX1_readWord, Cond.selects RX1 yX1_readWord yX1_readWord, Cond.code yX1_readWord cX1_readWord 3 none, Cond.methodLink RX1 72 yX1_tokenOf, Cond.static yX1_tokenOf, Cond.code yX1_tokenOf cX1_tokenOf 2 (some .int), Cond.constantLong RX1 76 (97), Cond.constantLong RX1 78 (105), Cond.constantLong RX1 80 (26982), Cond.constantLong RX1 82 (129117125440371), Cond.constantLong RX1 84 (474148660594), Cond.constantLong RX1 86 (7168377), Cond.methodLink RX1 33 yX1_readMay, Cond.instanceMethod yX1_readMay, Cond.selects RX1 yX1_readMay yX1_readMay]
def wsX2_rules_r3 : List Cond := [Cond.code yX1_readMay cX1_readMay 3 (some .boolean), Cond.methodLink RX1 40 yX1_readSentences, Cond.instanceMethod yX1_readSentences, Cond.selects RX1 yX1_readSentences yX1_readSentences, Cond.code yX1_readSentences cX1_readSentences 3 (some .int), Cond.static yX2_isSentence, Cond.initialized RX2, Cond.code yX2_isSentence cX2_isSentence 1 (some .boolean), Cond.methodLink RX1 37 yX1_readRule, Cond.instanceMethod yX1_readRule, Cond.selects RX1 yX1_readRule yX1_readRule, Cond.code yX1_readRule cX1_readRule 7 (some .boolean), Cond.instanceMethod yX0_hasRoom, Cond.selects RX0 yX0_hasRoom yX0_hasRoom, Cond.code yX0_hasRoom cX0_hasRoom 1 (some .boolean), Cond.instanceMethod yX0_add, Cond.selects RX0 yX0_add yX0_add, Cond.code yX0_add cX0_add 4 none, Cond.fieldLink RX0 9 "HoldUnless$RuleBook" "head" "[I", Cond.fieldLink RX0 15 "HoldUnless$RuleBook" "ifs" "[I", Cond.fieldLink RX0 18 "HoldUnless$RuleBook" "unless" "[I", Cond.methodLink RX0 28 yX0_hasRoom]
def wsX2_rules : List Cond := .code yX2_rules cX2_rules 3 (some .int) :: ((wsX2_rules_r1 ++ (wsX2_rules_r2 ++ wsX2_rules_r3)) ++ wsX20 ++ wsX10 ++ wsX00)
def wsX2_isRule : List Cond := .code yX2_isRule cX2_isRule 2 (some .boolean) :: ([.fieldLink RX2 19 "HoldUnless" "book" "LHoldUnless$RuleBook;"] ++ wsX20 ++ wsX00)
def wsX2_rule : List Cond := .code yX2_rule cX2_rule 3 (some .int) :: ([.fieldLink RX2 19 "HoldUnless" "book" "LHoldUnless$RuleBook;", .fieldLink RX2 51 "HoldUnless" "on" "I", .methodLink RX2 60 yX2_isRule, .instanceMethod yX2_isRule, .selects RX2 yX2_isRule yX2_isRule, .initialized RX2, .code yX2_isRule cX2_isRule 2 (some .boolean), .methodLink RX2 73 yX2_bitOf, .static yX2_bitOf, .code yX2_bitOf cX2_bitOf 2 (some .int)] ++ wsX20 ++ wsX00)
def wsX2_isBit : List Cond := .code yX2_isBit cX2_isBit 1 (some .boolean) :: ([])
def wsX2_withBit : List Cond := .code yX2_withBit cX2_withBit 3 (some .int) :: ([])
def wsX2_turn : List Cond := .code yX2_turn cX2_turn 4 (some .int) :: ([.fieldLink RX2 51 "HoldUnless" "on" "I", .methodLink RX2 60 yX2_isRule, .instanceMethod yX2_isRule, .selects RX2 yX2_isRule yX2_isRule, .initialized RX2, .code yX2_isRule cX2_isRule 2 (some .boolean), .fieldLink RX2 19 "HoldUnless" "book" "LHoldUnless$RuleBook;", .methodLink RX2 77 yX2_isBit, .static yX2_isBit, .code yX2_isBit cX2_isBit 1 (some .boolean), .methodLink RX2 73 yX2_bitOf, .static yX2_bitOf, .code yX2_bitOf cX2_bitOf 2 (some .int), .methodLink RX2 80 yX2_withBit, .static yX2_withBit, .code yX2_withBit cX2_withBit 3 (some .int)] ++ wsX20 ++ wsX00)
def wsX2_assume : List Cond := .code yX2_assume cX2_assume 4 (some .int) :: ([.fieldLink RX2 54 "HoldUnless" "assumed" "I", .methodLink RX2 84 yX2_isSentence, .static yX2_isSentence, .initialized RX2, .code yX2_isSentence cX2_isSentence 1 (some .boolean), .methodLink RX2 77 yX2_isBit, .static yX2_isBit, .code yX2_isBit cX2_isBit 1 (some .boolean), .methodLink RX2 73 yX2_bitOf, .static yX2_bitOf, .code yX2_bitOf cX2_bitOf 2 (some .int), .methodLink RX2 80 yX2_withBit, .static yX2_withBit, .code yX2_withBit cX2_withBit 3 (some .int)] ++ wsX20)
def wsX2_sets_r1 : List Cond := [Cond.fieldLink RX2 19 "HoldUnless" "book" "LHoldUnless$RuleBook;", Cond.fieldLink RX2 51 "HoldUnless" "on" "I", Cond.fieldLink RX2 54 "HoldUnless" "assumed" "I", Cond.instanceMethod yX0_upholds, Cond.initialized RX0, Cond.selects RX0 yX0_upholds yX0_upholds, Cond.code yX0_upholds cX0_upholds 4 (some .boolean), Cond.fieldLink RX0 25 "HoldUnless$RuleBook" "may" "I", Cond.methodLink RX0 44 yX0_brokenBy, Cond.instanceMethod yX0_brokenBy, Cond.selects RX0 yX0_brokenBy yX0_brokenBy, Cond.code yX0_brokenBy cX0_brokenBy 5 (some .int), Cond.fieldLink RX0 21 "HoldUnless$RuleBook" "size" "I", Cond.fieldLink RX0 9 "HoldUnless$RuleBook" "head" "[I", Cond.static yX2_bitOf, Cond.initialized RX2, Cond.code yX2_bitOf cX2_bitOf 2 (some .int), Cond.methodLink RX0 36 yX0_bodyHolds, Cond.instanceMethod yX0_bodyHolds, Cond.selects RX0 yX0_bodyHolds yX0_bodyHolds, Cond.code yX0_bodyHolds cX0_bodyHolds 4 (some .boolean), Cond.fieldLink RX0 15 "HoldUnless$RuleBook" "ifs" "[I", Cond.fieldLink RX0 18 "HoldUnless$RuleBook" "unless" "[I", Cond.methodLink RX0 47 yX0_comesOf]
def wsX2_sets_r2 : List Cond := [Cond.instanceMethod yX0_comesOf, Cond.selects RX0 yX0_comesOf yX0_comesOf, Cond.code yX0_comesOf cX0_comesOf 7 (some .int), Cond.methodLink RX0 40 yX0_nextRound, Cond.instanceMethod yX0_nextRound, Cond.selects RX0 yX0_nextRound yX0_nextRound, Cond.code yX0_nextRound cX0_nextRound 6 (some .int)]
def wsX2_sets : List Cond := .code yX2_sets cX2_sets 3 (some .int) :: ((wsX2_sets_r1 ++ wsX2_sets_r2) ++ wsX20 ++ wsX00)
def wsX2_standingSet_r1 : List Cond := [Cond.fieldLink RX2 19 "HoldUnless" "book" "LHoldUnless$RuleBook;", Cond.fieldLink RX2 51 "HoldUnless" "on" "I", Cond.fieldLink RX2 54 "HoldUnless" "assumed" "I", Cond.instanceMethod yX0_upholds, Cond.initialized RX0, Cond.selects RX0 yX0_upholds yX0_upholds, Cond.code yX0_upholds cX0_upholds 4 (some .boolean), Cond.fieldLink RX0 25 "HoldUnless$RuleBook" "may" "I", Cond.methodLink RX0 44 yX0_brokenBy, Cond.instanceMethod yX0_brokenBy, Cond.selects RX0 yX0_brokenBy yX0_brokenBy, Cond.code yX0_brokenBy cX0_brokenBy 5 (some .int), Cond.fieldLink RX0 21 "HoldUnless$RuleBook" "size" "I", Cond.fieldLink RX0 9 "HoldUnless$RuleBook" "head" "[I", Cond.static yX2_bitOf, Cond.initialized RX2, Cond.code yX2_bitOf cX2_bitOf 2 (some .int), Cond.methodLink RX0 36 yX0_bodyHolds, Cond.instanceMethod yX0_bodyHolds, Cond.selects RX0 yX0_bodyHolds yX0_bodyHolds, Cond.code yX0_bodyHolds cX0_bodyHolds 4 (some .boolean), Cond.fieldLink RX0 15 "HoldUnless$RuleBook" "ifs" "[I", Cond.fieldLink RX0 18 "HoldUnless$RuleBook" "unless" "[I", Cond.methodLink RX0 47 yX0_comesOf]
def wsX2_standingSet_r2 : List Cond := [Cond.instanceMethod yX0_comesOf, Cond.selects RX0 yX0_comesOf yX0_comesOf, Cond.code yX0_comesOf cX0_comesOf 7 (some .int), Cond.methodLink RX0 40 yX0_nextRound, Cond.instanceMethod yX0_nextRound, Cond.selects RX0 yX0_nextRound yX0_nextRound, Cond.code yX0_nextRound cX0_nextRound 6 (some .int)]
def wsX2_standingSet : List Cond := .code yX2_standingSet cX2_standingSet 4 (some .int) :: ((wsX2_standingSet_r1 ++ wsX2_standingSet_r2) ++ wsX20 ++ wsX00)
def wsX2_set_r1 : List Cond := [Cond.methodLink RX2 91 yX2_standingSet, Cond.instanceMethod yX2_standingSet, Cond.selects RX2 yX2_standingSet yX2_standingSet, Cond.initialized RX2, Cond.code yX2_standingSet cX2_standingSet 4 (some .int), Cond.fieldLink RX2 19 "HoldUnless" "book" "LHoldUnless$RuleBook;", Cond.fieldLink RX2 51 "HoldUnless" "on" "I", Cond.fieldLink RX2 54 "HoldUnless" "assumed" "I", Cond.instanceMethod yX0_upholds, Cond.initialized RX0, Cond.selects RX0 yX0_upholds yX0_upholds, Cond.code yX0_upholds cX0_upholds 4 (some .boolean), Cond.fieldLink RX0 25 "HoldUnless$RuleBook" "may" "I", Cond.methodLink RX0 44 yX0_brokenBy, Cond.instanceMethod yX0_brokenBy, Cond.selects RX0 yX0_brokenBy yX0_brokenBy, Cond.code yX0_brokenBy cX0_brokenBy 5 (some .int), Cond.fieldLink RX0 21 "HoldUnless$RuleBook" "size" "I", Cond.fieldLink RX0 9 "HoldUnless$RuleBook" "head" "[I", Cond.static yX2_bitOf, Cond.code yX2_bitOf cX2_bitOf 2 (some .int), Cond.methodLink RX0 36 yX0_bodyHolds, Cond.instanceMethod yX0_bodyHolds, Cond.selects RX0 yX0_bodyHolds yX0_bodyHolds]
def wsX2_set_r2 : List Cond := [Cond.code yX0_bodyHolds cX0_bodyHolds 4 (some .boolean), Cond.fieldLink RX0 15 "HoldUnless$RuleBook" "ifs" "[I", Cond.fieldLink RX0 18 "HoldUnless$RuleBook" "unless" "[I", Cond.methodLink RX0 47 yX0_comesOf, Cond.instanceMethod yX0_comesOf, Cond.selects RX0 yX0_comesOf yX0_comesOf, Cond.code yX0_comesOf cX0_comesOf 7 (some .int), Cond.methodLink RX0 40 yX0_nextRound, Cond.instanceMethod yX0_nextRound, Cond.selects RX0 yX0_nextRound yX0_nextRound, Cond.code yX0_nextRound cX0_nextRound 6 (some .int)]
def wsX2_set : List Cond := .code yX2_set cX2_set 2 (some .int) :: ((wsX2_set_r1 ++ wsX2_set_r2) ++ wsX20 ++ wsX00)
def wsX2_isSet : List Cond := .code yX2_isSet cX2_isSet 1 (some .boolean) :: ([])
def wsX2_stands_r1 : List Cond := [Cond.fieldLink RX2 19 "HoldUnless" "book" "LHoldUnless$RuleBook;", Cond.fieldLink RX2 51 "HoldUnless" "on" "I", Cond.fieldLink RX2 54 "HoldUnless" "assumed" "I", Cond.methodLink RX2 95 yX2_isSet, Cond.static yX2_isSet, Cond.initialized RX2, Cond.code yX2_isSet cX2_isSet 1 (some .boolean), Cond.instanceMethod yX0_upholds, Cond.initialized RX0, Cond.selects RX0 yX0_upholds yX0_upholds, Cond.code yX0_upholds cX0_upholds 4 (some .boolean), Cond.fieldLink RX0 25 "HoldUnless$RuleBook" "may" "I", Cond.methodLink RX0 44 yX0_brokenBy, Cond.instanceMethod yX0_brokenBy, Cond.selects RX0 yX0_brokenBy yX0_brokenBy, Cond.code yX0_brokenBy cX0_brokenBy 5 (some .int), Cond.fieldLink RX0 21 "HoldUnless$RuleBook" "size" "I", Cond.fieldLink RX0 9 "HoldUnless$RuleBook" "head" "[I", Cond.static yX2_bitOf, Cond.code yX2_bitOf cX2_bitOf 2 (some .int), Cond.methodLink RX0 36 yX0_bodyHolds, Cond.instanceMethod yX0_bodyHolds, Cond.selects RX0 yX0_bodyHolds yX0_bodyHolds, Cond.code yX0_bodyHolds cX0_bodyHolds 4 (some .boolean)]
def wsX2_stands_r2 : List Cond := [Cond.fieldLink RX0 15 "HoldUnless$RuleBook" "ifs" "[I", Cond.fieldLink RX0 18 "HoldUnless$RuleBook" "unless" "[I", Cond.methodLink RX0 47 yX0_comesOf, Cond.instanceMethod yX0_comesOf, Cond.selects RX0 yX0_comesOf yX0_comesOf, Cond.code yX0_comesOf cX0_comesOf 7 (some .int), Cond.methodLink RX0 40 yX0_nextRound, Cond.instanceMethod yX0_nextRound, Cond.selects RX0 yX0_nextRound yX0_nextRound, Cond.code yX0_nextRound cX0_nextRound 6 (some .int)]
def wsX2_stands : List Cond := .code yX2_stands cX2_stands 2 (some .int) :: ((wsX2_stands_r1 ++ wsX2_stands_r2) ++ wsX20 ++ wsX00)
def wsX2_holds_r1 : List Cond := [Cond.fieldLink RX2 19 "HoldUnless" "book" "LHoldUnless$RuleBook;", Cond.fieldLink RX2 51 "HoldUnless" "on" "I", Cond.fieldLink RX2 54 "HoldUnless" "assumed" "I", Cond.methodLink RX2 77 yX2_isBit, Cond.static yX2_isBit, Cond.initialized RX2, Cond.code yX2_isBit cX2_isBit 1 (some .boolean), Cond.instanceMethod yX0_upholds, Cond.initialized RX0, Cond.selects RX0 yX0_upholds yX0_upholds, Cond.code yX0_upholds cX0_upholds 4 (some .boolean), Cond.fieldLink RX0 25 "HoldUnless$RuleBook" "may" "I", Cond.methodLink RX0 44 yX0_brokenBy, Cond.instanceMethod yX0_brokenBy, Cond.selects RX0 yX0_brokenBy yX0_brokenBy, Cond.code yX0_brokenBy cX0_brokenBy 5 (some .int), Cond.fieldLink RX0 21 "HoldUnless$RuleBook" "size" "I", Cond.fieldLink RX0 9 "HoldUnless$RuleBook" "head" "[I", Cond.static yX2_bitOf, Cond.code yX2_bitOf cX2_bitOf 2 (some .int), Cond.methodLink RX0 36 yX0_bodyHolds, Cond.instanceMethod yX0_bodyHolds, Cond.selects RX0 yX0_bodyHolds yX0_bodyHolds, Cond.code yX0_bodyHolds cX0_bodyHolds 4 (some .boolean)]
def wsX2_holds_r2 : List Cond := [Cond.fieldLink RX0 15 "HoldUnless$RuleBook" "ifs" "[I", Cond.fieldLink RX0 18 "HoldUnless$RuleBook" "unless" "[I", Cond.methodLink RX0 47 yX0_comesOf, Cond.instanceMethod yX0_comesOf, Cond.selects RX0 yX0_comesOf yX0_comesOf, Cond.code yX0_comesOf cX0_comesOf 7 (some .int), Cond.methodLink RX0 40 yX0_nextRound, Cond.instanceMethod yX0_nextRound, Cond.selects RX0 yX0_nextRound yX0_nextRound, Cond.code yX0_nextRound cX0_nextRound 6 (some .int)]
def wsX2_holds : List Cond := .code yX2_holds cX2_holds 5 (some .int) :: ((wsX2_holds_r1 ++ wsX2_holds_r2) ++ wsX20 ++ wsX00)
def wsX2_known_r1 : List Cond := [Cond.fieldLink RX2 19 "HoldUnless" "book" "LHoldUnless$RuleBook;", Cond.fieldLink RX2 54 "HoldUnless" "assumed" "I", Cond.fieldLink RX2 51 "HoldUnless" "on" "I", Cond.methodLink RX2 84 yX2_isSentence, Cond.static yX2_isSentence, Cond.initialized RX2, Cond.code yX2_isSentence cX2_isSentence 1 (some .boolean), Cond.instanceMethod yX0_comesOf, Cond.initialized RX0, Cond.selects RX0 yX0_comesOf yX0_comesOf, Cond.code yX0_comesOf cX0_comesOf 7 (some .int), Cond.methodLink RX0 40 yX0_nextRound, Cond.instanceMethod yX0_nextRound, Cond.selects RX0 yX0_nextRound yX0_nextRound, Cond.code yX0_nextRound cX0_nextRound 6 (some .int), Cond.fieldLink RX0 21 "HoldUnless$RuleBook" "size" "I", Cond.fieldLink RX0 9 "HoldUnless$RuleBook" "head" "[I", Cond.static yX2_bitOf, Cond.code yX2_bitOf cX2_bitOf 2 (some .int), Cond.methodLink RX0 36 yX0_bodyHolds, Cond.instanceMethod yX0_bodyHolds, Cond.selects RX0 yX0_bodyHolds yX0_bodyHolds, Cond.code yX0_bodyHolds cX0_bodyHolds 4 (some .boolean), Cond.fieldLink RX0 15 "HoldUnless$RuleBook" "ifs" "[I"]
def wsX2_known_r2 : List Cond := [Cond.fieldLink RX0 18 "HoldUnless$RuleBook" "unless" "[I", Cond.methodLink RX2 73 yX2_bitOf]
def wsX2_known : List Cond := .code yX2_known cX2_known 7 (some .int) :: ((wsX2_known_r1 ++ wsX2_known_r2) ++ wsX20 ++ wsX00)
def wsX2_why_r1 : List Cond := [Cond.fieldLink RX2 54 "HoldUnless" "assumed" "I", Cond.fieldLink RX2 19 "HoldUnless" "book" "LHoldUnless$RuleBook;", Cond.fieldLink RX2 51 "HoldUnless" "on" "I", Cond.methodLink RX2 84 yX2_isSentence, Cond.static yX2_isSentence, Cond.initialized RX2, Cond.code yX2_isSentence cX2_isSentence 1 (some .boolean), Cond.methodLink RX2 77 yX2_isBit, Cond.static yX2_isBit, Cond.code yX2_isBit cX2_isBit 1 (some .boolean), Cond.methodLink RX2 91 yX2_standingSet, Cond.instanceMethod yX2_standingSet, Cond.selects RX2 yX2_standingSet yX2_standingSet, Cond.code yX2_standingSet cX2_standingSet 4 (some .int), Cond.instanceMethod yX0_upholds, Cond.initialized RX0, Cond.selects RX0 yX0_upholds yX0_upholds, Cond.code yX0_upholds cX0_upholds 4 (some .boolean), Cond.fieldLink RX0 25 "HoldUnless$RuleBook" "may" "I", Cond.methodLink RX0 44 yX0_brokenBy, Cond.instanceMethod yX0_brokenBy, Cond.selects RX0 yX0_brokenBy yX0_brokenBy, Cond.code yX0_brokenBy cX0_brokenBy 5 (some .int), Cond.fieldLink RX0 21 "HoldUnless$RuleBook" "size" "I"]
def wsX2_why_r2 : List Cond := [Cond.fieldLink RX0 9 "HoldUnless$RuleBook" "head" "[I", Cond.static yX2_bitOf, Cond.code yX2_bitOf cX2_bitOf 2 (some .int), Cond.methodLink RX0 36 yX0_bodyHolds, Cond.instanceMethod yX0_bodyHolds, Cond.selects RX0 yX0_bodyHolds yX0_bodyHolds, Cond.code yX0_bodyHolds cX0_bodyHolds 4 (some .boolean), Cond.fieldLink RX0 15 "HoldUnless$RuleBook" "ifs" "[I", Cond.fieldLink RX0 18 "HoldUnless$RuleBook" "unless" "[I", Cond.methodLink RX0 47 yX0_comesOf, Cond.instanceMethod yX0_comesOf, Cond.selects RX0 yX0_comesOf yX0_comesOf, Cond.code yX0_comesOf cX0_comesOf 7 (some .int), Cond.methodLink RX0 40 yX0_nextRound, Cond.instanceMethod yX0_nextRound, Cond.selects RX0 yX0_nextRound yX0_nextRound, Cond.code yX0_nextRound cX0_nextRound 6 (some .int), Cond.methodLink RX2 73 yX2_bitOf, Cond.instanceMethod yX0_firstRuleBringing, Cond.selects RX0 yX0_firstRuleBringing yX0_firstRuleBringing, Cond.code yX0_firstRuleBringing cX0_firstRuleBringing 6 (some .int)]
def wsX2_why : List Cond := .code yX2_why cX2_why 8 (some .int) :: ((wsX2_why_r1 ++ wsX2_why_r2) ++ wsX20 ++ wsX00)
def wsX2_hangs_r1 : List Cond := [Cond.fieldLink RX2 19 "HoldUnless" "book" "LHoldUnless$RuleBook;", Cond.fieldLink RX2 51 "HoldUnless" "on" "I", Cond.methodLink RX2 77 yX2_isBit, Cond.static yX2_isBit, Cond.initialized RX2, Cond.code yX2_isBit cX2_isBit 1 (some .boolean), Cond.instanceMethod yX0_hangsByIf, Cond.initialized RX0, Cond.selects RX0 yX0_hangsByIf yX0_hangsByIf, Cond.code yX0_hangsByIf cX0_hangsByIf 5 (some .boolean), Cond.methodLink RX0 54 yX0_ifsUnder, Cond.instanceMethod yX0_ifsUnder, Cond.selects RX0 yX0_ifsUnder yX0_ifsUnder, Cond.code yX0_ifsUnder cX0_ifsUnder 3 (some .int), Cond.fieldLink RX0 15 "HoldUnless$RuleBook" "ifs" "[I", Cond.methodLink RX0 50 yX0_partUnder, Cond.instanceMethod yX0_partUnder, Cond.selects RX0 yX0_partUnder yX0_partUnder, Cond.code yX0_partUnder cX0_partUnder 6 (some .int), Cond.fieldLink RX0 21 "HoldUnless$RuleBook" "size" "I", Cond.fieldLink RX0 9 "HoldUnless$RuleBook" "head" "[I", Cond.static yX2_bitOf, Cond.code yX2_bitOf cX2_bitOf 2 (some .int), Cond.instanceMethod yX0_isTangled]
def wsX2_hangs_r2 : List Cond := [Cond.selects RX0 yX0_isTangled yX0_isTangled, Cond.code yX0_isTangled cX0_isTangled 7 (some .boolean), Cond.methodLink RX0 57 yX0_unlessUnder, Cond.instanceMethod yX0_unlessUnder, Cond.selects RX0 yX0_unlessUnder yX0_unlessUnder, Cond.code yX0_unlessUnder cX0_unlessUnder 3 (some .int), Cond.fieldLink RX0 18 "HoldUnless$RuleBook" "unless" "[I"]
def wsX2_hangs : List Cond := .code yX2_hangs cX2_hangs 5 (some .int) :: ((wsX2_hangs_r1 ++ wsX2_hangs_r2) ++ wsX20 ++ wsX00)
def wsJ6_bitCount_0f7a4 : List Cond := .code yJ6_bitCount_0f7a4 cJ6_bitCount_0f7a4 1 (some .int) :: ([.constant RJ6 265 (1431655765), .constant RJ6 266 (858993459), .constant RJ6 267 (252645135)])
def wsX2_standsWith_r1 : List Cond := [Cond.fieldLink RX2 19 "HoldUnless" "book" "LHoldUnless$RuleBook;", Cond.fieldLink RX2 51 "HoldUnless" "on" "I", Cond.instanceMethod yX0_upholds, Cond.initialized RX0, Cond.selects RX0 yX0_upholds yX0_upholds, Cond.code yX0_upholds cX0_upholds 4 (some .boolean), Cond.fieldLink RX0 25 "HoldUnless$RuleBook" "may" "I", Cond.methodLink RX0 44 yX0_brokenBy, Cond.instanceMethod yX0_brokenBy, Cond.selects RX0 yX0_brokenBy yX0_brokenBy, Cond.code yX0_brokenBy cX0_brokenBy 5 (some .int), Cond.fieldLink RX0 21 "HoldUnless$RuleBook" "size" "I", Cond.fieldLink RX0 9 "HoldUnless$RuleBook" "head" "[I", Cond.static yX2_bitOf, Cond.initialized RX2, Cond.code yX2_bitOf cX2_bitOf 2 (some .int), Cond.methodLink RX0 36 yX0_bodyHolds, Cond.instanceMethod yX0_bodyHolds, Cond.selects RX0 yX0_bodyHolds yX0_bodyHolds, Cond.code yX0_bodyHolds cX0_bodyHolds 4 (some .boolean), Cond.fieldLink RX0 15 "HoldUnless$RuleBook" "ifs" "[I", Cond.fieldLink RX0 18 "HoldUnless$RuleBook" "unless" "[I", Cond.methodLink RX0 47 yX0_comesOf, Cond.instanceMethod yX0_comesOf]
def wsX2_standsWith_r2 : List Cond := [Cond.selects RX0 yX0_comesOf yX0_comesOf, Cond.code yX0_comesOf cX0_comesOf 7 (some .int), Cond.methodLink RX0 40 yX0_nextRound, Cond.instanceMethod yX0_nextRound, Cond.selects RX0 yX0_nextRound yX0_nextRound, Cond.code yX0_nextRound cX0_nextRound 6 (some .int)]
def wsX2_standsWith : List Cond := .code yX2_standsWith cX2_standsWith 5 (some .boolean) :: ((wsX2_standsWith_r1 ++ wsX2_standsWith_r2) ++ wsX20 ++ wsX00)
def wsX2_explains_r1 : List Cond := [Cond.fieldLink RX2 54 "HoldUnless" "assumed" "I", Cond.methodLink RX2 84 yX2_isSentence, Cond.static yX2_isSentence, Cond.initialized RX2, Cond.code yX2_isSentence cX2_isSentence 1 (some .boolean), Cond.methodLink RX2 95 yX2_isSet, Cond.static yX2_isSet, Cond.code yX2_isSet cX2_isSet 1 (some .boolean), Cond.methodLink RX2 118 yJ6_bitCount_0f7a4, Cond.static yJ6_bitCount_0f7a4, Cond.initialized RJ6, Cond.code yJ6_bitCount_0f7a4 cJ6_bitCount_0f7a4 1 (some .int), Cond.constant RJ6 265 (1431655765), Cond.constant RJ6 266 (858993459), Cond.constant RJ6 267 (252645135), Cond.methodLink RX2 123 yX2_standsWith, Cond.instanceMethod yX2_standsWith, Cond.selects RX2 yX2_standsWith yX2_standsWith, Cond.code yX2_standsWith cX2_standsWith 5 (some .boolean), Cond.fieldLink RX2 19 "HoldUnless" "book" "LHoldUnless$RuleBook;", Cond.fieldLink RX2 51 "HoldUnless" "on" "I", Cond.instanceMethod yX0_upholds, Cond.initialized RX0, Cond.selects RX0 yX0_upholds yX0_upholds]
def wsX2_explains_r2 : List Cond := [Cond.code yX0_upholds cX0_upholds 4 (some .boolean), Cond.fieldLink RX0 25 "HoldUnless$RuleBook" "may" "I", Cond.methodLink RX0 44 yX0_brokenBy, Cond.instanceMethod yX0_brokenBy, Cond.selects RX0 yX0_brokenBy yX0_brokenBy, Cond.code yX0_brokenBy cX0_brokenBy 5 (some .int), Cond.fieldLink RX0 21 "HoldUnless$RuleBook" "size" "I", Cond.fieldLink RX0 9 "HoldUnless$RuleBook" "head" "[I", Cond.static yX2_bitOf, Cond.code yX2_bitOf cX2_bitOf 2 (some .int), Cond.methodLink RX0 36 yX0_bodyHolds, Cond.instanceMethod yX0_bodyHolds, Cond.selects RX0 yX0_bodyHolds yX0_bodyHolds, Cond.code yX0_bodyHolds cX0_bodyHolds 4 (some .boolean), Cond.fieldLink RX0 15 "HoldUnless$RuleBook" "ifs" "[I", Cond.fieldLink RX0 18 "HoldUnless$RuleBook" "unless" "[I", Cond.methodLink RX0 47 yX0_comesOf, Cond.instanceMethod yX0_comesOf, Cond.selects RX0 yX0_comesOf yX0_comesOf, Cond.code yX0_comesOf cX0_comesOf 7 (some .int), Cond.methodLink RX0 40 yX0_nextRound, Cond.instanceMethod yX0_nextRound, Cond.selects RX0 yX0_nextRound yX0_nextRound, Cond.code yX0_nextRound cX0_nextRound 6 (some .int)]
def wsX2_explains : List Cond := .code yX2_explains cX2_explains 6 (some .int) :: ((wsX2_explains_r1 ++ wsX2_explains_r2) ++ wsX20 ++ wsX00)
def wsX2_isBetter : List Cond := .code yX2_isBetter cX2_isBetter 3 (some .boolean) :: ([.methodLink RX2 118 yJ6_bitCount_0f7a4, .static yJ6_bitCount_0f7a4, .initialized RJ6, .code yJ6_bitCount_0f7a4 cJ6_bitCount_0f7a4 1 (some .int), .constant RJ6 265 (1431655765), .constant RJ6 266 (858993459), .constant RJ6 267 (252645135)])
def wsX2_givesUp_r1 : List Cond := [Cond.fieldLink RX2 19 "HoldUnless" "book" "LHoldUnless$RuleBook;", Cond.fieldLink RX2 51 "HoldUnless" "on" "I", Cond.fieldLink RX2 54 "HoldUnless" "assumed" "I", Cond.instanceMethod yX0_brokenBy, Cond.initialized RX0, Cond.selects RX0 yX0_brokenBy yX0_brokenBy, Cond.code yX0_brokenBy cX0_brokenBy 5 (some .int), Cond.fieldLink RX0 21 "HoldUnless$RuleBook" "size" "I", Cond.fieldLink RX0 9 "HoldUnless$RuleBook" "head" "[I", Cond.static yX2_bitOf, Cond.initialized RX2, Cond.code yX2_bitOf cX2_bitOf 2 (some .int), Cond.methodLink RX0 36 yX0_bodyHolds, Cond.instanceMethod yX0_bodyHolds, Cond.selects RX0 yX0_bodyHolds yX0_bodyHolds, Cond.code yX0_bodyHolds cX0_bodyHolds 4 (some .boolean), Cond.fieldLink RX0 15 "HoldUnless$RuleBook" "ifs" "[I", Cond.fieldLink RX0 18 "HoldUnless$RuleBook" "unless" "[I", Cond.methodLink RX2 118 yJ6_bitCount_0f7a4, Cond.static yJ6_bitCount_0f7a4, Cond.initialized RJ6, Cond.code yJ6_bitCount_0f7a4 cJ6_bitCount_0f7a4 1 (some .int), Cond.constant RJ6 265 (1431655765), Cond.constant RJ6 266 (858993459)]
def wsX2_givesUp_r2 : List Cond := [Cond.constant RJ6 267 (252645135), Cond.methodLink RX2 129 yX2_isBetter, Cond.static yX2_isBetter, Cond.code yX2_isBetter cX2_isBetter 3 (some .boolean), Cond.instanceMethod yX0_upholds, Cond.selects RX0 yX0_upholds yX0_upholds, Cond.code yX0_upholds cX0_upholds 4 (some .boolean), Cond.fieldLink RX0 25 "HoldUnless$RuleBook" "may" "I", Cond.methodLink RX0 44 yX0_brokenBy, Cond.methodLink RX0 47 yX0_comesOf, Cond.instanceMethod yX0_comesOf, Cond.selects RX0 yX0_comesOf yX0_comesOf, Cond.code yX0_comesOf cX0_comesOf 7 (some .int), Cond.methodLink RX0 40 yX0_nextRound, Cond.instanceMethod yX0_nextRound, Cond.selects RX0 yX0_nextRound yX0_nextRound, Cond.code yX0_nextRound cX0_nextRound 6 (some .int)]
def wsX2_givesUp : List Cond := .code yX2_givesUp cX2_givesUp 5 (some .int) :: ((wsX2_givesUp_r1 ++ wsX2_givesUp_r2) ++ wsX20 ++ wsX00)
def wsX2_sameSetsWith_r1 : List Cond := [Cond.fieldLink RX2 19 "HoldUnless" "book" "LHoldUnless$RuleBook;", Cond.fieldLink RX2 51 "HoldUnless" "on" "I", Cond.fieldLink RX2 54 "HoldUnless" "assumed" "I", Cond.instanceMethod yX0_upholds, Cond.initialized RX0, Cond.selects RX0 yX0_upholds yX0_upholds, Cond.code yX0_upholds cX0_upholds 4 (some .boolean), Cond.fieldLink RX0 25 "HoldUnless$RuleBook" "may" "I", Cond.methodLink RX0 44 yX0_brokenBy, Cond.instanceMethod yX0_brokenBy, Cond.selects RX0 yX0_brokenBy yX0_brokenBy, Cond.code yX0_brokenBy cX0_brokenBy 5 (some .int), Cond.fieldLink RX0 21 "HoldUnless$RuleBook" "size" "I", Cond.fieldLink RX0 9 "HoldUnless$RuleBook" "head" "[I", Cond.static yX2_bitOf, Cond.initialized RX2, Cond.code yX2_bitOf cX2_bitOf 2 (some .int), Cond.methodLink RX0 36 yX0_bodyHolds, Cond.instanceMethod yX0_bodyHolds, Cond.selects RX0 yX0_bodyHolds yX0_bodyHolds, Cond.code yX0_bodyHolds cX0_bodyHolds 4 (some .boolean), Cond.fieldLink RX0 15 "HoldUnless$RuleBook" "ifs" "[I", Cond.fieldLink RX0 18 "HoldUnless$RuleBook" "unless" "[I", Cond.methodLink RX0 47 yX0_comesOf]
def wsX2_sameSetsWith_r2 : List Cond := [Cond.instanceMethod yX0_comesOf, Cond.selects RX0 yX0_comesOf yX0_comesOf, Cond.code yX0_comesOf cX0_comesOf 7 (some .int), Cond.methodLink RX0 40 yX0_nextRound, Cond.instanceMethod yX0_nextRound, Cond.selects RX0 yX0_nextRound yX0_nextRound, Cond.code yX0_nextRound cX0_nextRound 6 (some .int)]
def wsX2_sameSetsWith : List Cond := .code yX2_sameSetsWith cX2_sameSetsWith 4 (some .boolean) :: ((wsX2_sameSetsWith_r1 ++ wsX2_sameSetsWith_r2) ++ wsX20 ++ wsX00)
def wsX2_idle_r1 : List Cond := [Cond.fieldLink RX2 51 "HoldUnless" "on" "I", Cond.fieldLink RX2 54 "HoldUnless" "assumed" "I", Cond.methodLink RX2 60 yX2_isRule, Cond.instanceMethod yX2_isRule, Cond.selects RX2 yX2_isRule yX2_isRule, Cond.initialized RX2, Cond.code yX2_isRule cX2_isRule 2 (some .boolean), Cond.fieldLink RX2 19 "HoldUnless" "book" "LHoldUnless$RuleBook;", Cond.methodLink RX2 73 yX2_bitOf, Cond.static yX2_bitOf, Cond.code yX2_bitOf cX2_bitOf 2 (some .int), Cond.methodLink RX2 80 yX2_withBit, Cond.static yX2_withBit, Cond.code yX2_withBit cX2_withBit 3 (some .int), Cond.methodLink RX2 132 yX2_sameSetsWith, Cond.instanceMethod yX2_sameSetsWith, Cond.selects RX2 yX2_sameSetsWith yX2_sameSetsWith, Cond.code yX2_sameSetsWith cX2_sameSetsWith 4 (some .boolean), Cond.instanceMethod yX0_upholds, Cond.initialized RX0, Cond.selects RX0 yX0_upholds yX0_upholds, Cond.code yX0_upholds cX0_upholds 4 (some .boolean), Cond.fieldLink RX0 25 "HoldUnless$RuleBook" "may" "I", Cond.methodLink RX0 44 yX0_brokenBy]
def wsX2_idle_r2 : List Cond := [Cond.instanceMethod yX0_brokenBy, Cond.selects RX0 yX0_brokenBy yX0_brokenBy, Cond.code yX0_brokenBy cX0_brokenBy 5 (some .int), Cond.fieldLink RX0 21 "HoldUnless$RuleBook" "size" "I", Cond.fieldLink RX0 9 "HoldUnless$RuleBook" "head" "[I", Cond.methodLink RX0 36 yX0_bodyHolds, Cond.instanceMethod yX0_bodyHolds, Cond.selects RX0 yX0_bodyHolds yX0_bodyHolds, Cond.code yX0_bodyHolds cX0_bodyHolds 4 (some .boolean), Cond.fieldLink RX0 15 "HoldUnless$RuleBook" "ifs" "[I", Cond.fieldLink RX0 18 "HoldUnless$RuleBook" "unless" "[I", Cond.methodLink RX0 47 yX0_comesOf, Cond.instanceMethod yX0_comesOf, Cond.selects RX0 yX0_comesOf yX0_comesOf, Cond.code yX0_comesOf cX0_comesOf 7 (some .int), Cond.methodLink RX0 40 yX0_nextRound, Cond.instanceMethod yX0_nextRound, Cond.selects RX0 yX0_nextRound yX0_nextRound, Cond.code yX0_nextRound cX0_nextRound 6 (some .int)]
def wsX2_idle : List Cond := .code yX2_idle cX2_idle 2 (some .int) :: ((wsX2_idle_r1 ++ wsX2_idle_r2) ++ wsX20 ++ wsX00)
def wsX2_isImage : List Cond := .code yX2_isImage cX2_isImage 1 (some .boolean) :: ([])
def wsX2_alike_r1 : List Cond := [Cond.fieldLink RX2 57 "HoldUnless" "imagesKept" "I", Cond.fieldLink RX2 26 "HoldUnless" "imageOn" "[I", Cond.fieldLink RX2 30 "HoldUnless" "imageAssumed" "[I", Cond.methodLink RX2 135 yX2_isImage, Cond.static yX2_isImage, Cond.initialized RX2, Cond.code yX2_isImage cX2_isImage 1 (some .boolean), Cond.methodLink RX2 73 yX2_bitOf, Cond.static yX2_bitOf, Cond.code yX2_bitOf cX2_bitOf 2 (some .int), Cond.methodLink RX2 132 yX2_sameSetsWith, Cond.instanceMethod yX2_sameSetsWith, Cond.selects RX2 yX2_sameSetsWith yX2_sameSetsWith, Cond.code yX2_sameSetsWith cX2_sameSetsWith 4 (some .boolean), Cond.fieldLink RX2 19 "HoldUnless" "book" "LHoldUnless$RuleBook;", Cond.fieldLink RX2 51 "HoldUnless" "on" "I", Cond.fieldLink RX2 54 "HoldUnless" "assumed" "I", Cond.instanceMethod yX0_upholds, Cond.initialized RX0, Cond.selects RX0 yX0_upholds yX0_upholds, Cond.code yX0_upholds cX0_upholds 4 (some .boolean), Cond.fieldLink RX0 25 "HoldUnless$RuleBook" "may" "I", Cond.methodLink RX0 44 yX0_brokenBy, Cond.instanceMethod yX0_brokenBy]
def wsX2_alike_r2 : List Cond := [Cond.selects RX0 yX0_brokenBy yX0_brokenBy, Cond.code yX0_brokenBy cX0_brokenBy 5 (some .int), Cond.fieldLink RX0 21 "HoldUnless$RuleBook" "size" "I", Cond.fieldLink RX0 9 "HoldUnless$RuleBook" "head" "[I", Cond.methodLink RX0 36 yX0_bodyHolds, Cond.instanceMethod yX0_bodyHolds, Cond.selects RX0 yX0_bodyHolds yX0_bodyHolds, Cond.code yX0_bodyHolds cX0_bodyHolds 4 (some .boolean), Cond.fieldLink RX0 15 "HoldUnless$RuleBook" "ifs" "[I", Cond.fieldLink RX0 18 "HoldUnless$RuleBook" "unless" "[I", Cond.methodLink RX0 47 yX0_comesOf, Cond.instanceMethod yX0_comesOf, Cond.selects RX0 yX0_comesOf yX0_comesOf, Cond.code yX0_comesOf cX0_comesOf 7 (some .int), Cond.methodLink RX0 40 yX0_nextRound, Cond.instanceMethod yX0_nextRound, Cond.selects RX0 yX0_nextRound yX0_nextRound, Cond.code yX0_nextRound cX0_nextRound 6 (some .int)]
def wsX2_alike : List Cond := .code yX2_alike cX2_alike 2 (some .int) :: ((wsX2_alike_r1 ++ wsX2_alike_r2) ++ wsX20 ++ wsX00)
def wsX2_markOfRule : List Cond := .code yX2_markOfRule cX2_markOfRule 2 (some .int) :: ([.fieldLink RX2 157 "HoldUnless" "traceSum" "J", .fieldLink RX2 19 "HoldUnless" "book" "LHoldUnless$RuleBook;", .methodLink RX2 118 yJ6_bitCount_0f7a4, .static yJ6_bitCount_0f7a4, .initialized RJ6, .code yJ6_bitCount_0f7a4 cJ6_bitCount_0f7a4 1 (some .int), .constant RJ6 265 (1431655765), .constant RJ6 266 (858993459), .constant RJ6 267 (252645135)] ++ wsX20 ++ wsX00)
def wsX2_markOfLaw : List Cond := .code yX2_markOfLaw cX2_markOfLaw 2 (some .int) :: ([.fieldLink RX2 157 "HoldUnless" "traceSum" "J", .constantLong RX2 161 (10), .methodLink RX2 139 yX2_markOfRule, .instanceMethod yX2_markOfRule, .selects RX2 yX2_markOfRule yX2_markOfRule, .initialized RX2, .code yX2_markOfRule cX2_markOfRule 2 (some .int), .fieldLink RX2 19 "HoldUnless" "book" "LHoldUnless$RuleBook;", .methodLink RX2 118 yJ6_bitCount_0f7a4, .static yJ6_bitCount_0f7a4, .initialized RJ6, .code yJ6_bitCount_0f7a4 cJ6_bitCount_0f7a4 1 (some .int), .constant RJ6 265 (1431655765), .constant RJ6 266 (858993459), .constant RJ6 267 (252645135)] ++ wsX20 ++ wsX00)
def wsX2_markOfHabit : List Cond := .code yX2_markOfHabit cX2_markOfHabit 2 (some .int) :: ([.fieldLink RX2 157 "HoldUnless" "traceSum" "J", .constantLong RX2 163 (100), .fieldLink RX2 19 "HoldUnless" "book" "LHoldUnless$RuleBook;", .methodLink RX2 139 yX2_markOfRule, .instanceMethod yX2_markOfRule, .selects RX2 yX2_markOfRule yX2_markOfRule, .initialized RX2, .code yX2_markOfRule cX2_markOfRule 2 (some .int), .methodLink RX2 118 yJ6_bitCount_0f7a4, .static yJ6_bitCount_0f7a4, .initialized RJ6, .code yJ6_bitCount_0f7a4 cJ6_bitCount_0f7a4 1 (some .int), .constant RJ6 265 (1431655765), .constant RJ6 266 (858993459), .constant RJ6 267 (252645135)] ++ wsX20 ++ wsX00)
def wsX2_markOfDecree : List Cond := .code yX2_markOfDecree cX2_markOfDecree 2 (some .int) :: ([.fieldLink RX2 157 "HoldUnless" "traceSum" "J", .constantLong RX2 165 (1000), .methodLink RX2 142 yX2_markOfLaw, .instanceMethod yX2_markOfLaw, .selects RX2 yX2_markOfLaw yX2_markOfLaw, .initialized RX2, .code yX2_markOfLaw cX2_markOfLaw 2 (some .int), .constantLong RX2 161 (10), .methodLink RX2 139 yX2_markOfRule, .instanceMethod yX2_markOfRule, .selects RX2 yX2_markOfRule yX2_markOfRule, .code yX2_markOfRule cX2_markOfRule 2 (some .int), .fieldLink RX2 19 "HoldUnless" "book" "LHoldUnless$RuleBook;", .methodLink RX2 118 yJ6_bitCount_0f7a4, .static yJ6_bitCount_0f7a4, .initialized RJ6, .code yJ6_bitCount_0f7a4 cJ6_bitCount_0f7a4 1 (some .int), .constant RJ6 265 (1431655765), .constant RJ6 266 (858993459), .constant RJ6 267 (252645135)] ++ wsX20 ++ wsX00)
def wsX2_markOfCustom : List Cond := .code yX2_markOfCustom cX2_markOfCustom 2 (some .int) :: ([.fieldLink RX2 157 "HoldUnless" "traceSum" "J", .constantLong RX2 167 (10000), .fieldLink RX2 51 "HoldUnless" "on" "I", .methodLink RX2 145 yX2_markOfHabit, .instanceMethod yX2_markOfHabit, .selects RX2 yX2_markOfHabit yX2_markOfHabit, .initialized RX2, .code yX2_markOfHabit cX2_markOfHabit 2 (some .int), .constantLong RX2 163 (100), .fieldLink RX2 19 "HoldUnless" "book" "LHoldUnless$RuleBook;", .methodLink RX2 139 yX2_markOfRule, .instanceMethod yX2_markOfRule, .selects RX2 yX2_markOfRule yX2_markOfRule, .code yX2_markOfRule cX2_markOfRule 2 (some .int), .methodLink RX2 118 yJ6_bitCount_0f7a4, .static yJ6_bitCount_0f7a4, .initialized RJ6, .code yJ6_bitCount_0f7a4 cJ6_bitCount_0f7a4 1 (some .int), .constant RJ6 265 (1431655765), .constant RJ6 266 (858993459), .constant RJ6 267 (252645135), .methodLink RX2 73 yX2_bitOf, .static yX2_bitOf, .code yX2_bitOf cX2_bitOf 2 (some .int)] ++ wsX20 ++ wsX00)
def wsX2_markOfOath : List Cond := .code yX2_markOfOath cX2_markOfOath 2 (some .int) :: ([.fieldLink RX2 157 "HoldUnless" "traceSum" "J", .constantLong RX2 169 (100000), .fieldLink RX2 19 "HoldUnless" "book" "LHoldUnless$RuleBook;", .methodLink RX2 139 yX2_markOfRule, .instanceMethod yX2_markOfRule, .selects RX2 yX2_markOfRule yX2_markOfRule, .initialized RX2, .code yX2_markOfRule cX2_markOfRule 2 (some .int), .methodLink RX2 118 yJ6_bitCount_0f7a4, .static yJ6_bitCount_0f7a4, .initialized RJ6, .code yJ6_bitCount_0f7a4 cJ6_bitCount_0f7a4 1 (some .int), .constant RJ6 265 (1431655765), .constant RJ6 266 (858993459), .constant RJ6 267 (252645135)] ++ wsX20 ++ wsX00)
def wsX2_mark_r1 : List Cond := [Cond.constant RX2 138 (-1000000), Cond.methodLink RX2 60 yX2_isRule, Cond.instanceMethod yX2_isRule, Cond.selects RX2 yX2_isRule yX2_isRule, Cond.initialized RX2, Cond.code yX2_isRule cX2_isRule 2 (some .boolean), Cond.fieldLink RX2 19 "HoldUnless" "book" "LHoldUnless$RuleBook;", Cond.methodLink RX2 139 yX2_markOfRule, Cond.instanceMethod yX2_markOfRule, Cond.selects RX2 yX2_markOfRule yX2_markOfRule, Cond.code yX2_markOfRule cX2_markOfRule 2 (some .int), Cond.fieldLink RX2 157 "HoldUnless" "traceSum" "J", Cond.methodLink RX2 118 yJ6_bitCount_0f7a4, Cond.static yJ6_bitCount_0f7a4, Cond.initialized RJ6, Cond.code yJ6_bitCount_0f7a4 cJ6_bitCount_0f7a4 1 (some .int), Cond.constant RJ6 265 (1431655765), Cond.constant RJ6 266 (858993459), Cond.constant RJ6 267 (252645135), Cond.methodLink RX2 142 yX2_markOfLaw, Cond.instanceMethod yX2_markOfLaw, Cond.selects RX2 yX2_markOfLaw yX2_markOfLaw, Cond.code yX2_markOfLaw cX2_markOfLaw 2 (some .int), Cond.constantLong RX2 161 (10)]
def wsX2_mark_r2 : List Cond := [Cond.methodLink RX2 145 yX2_markOfHabit, Cond.instanceMethod yX2_markOfHabit, Cond.selects RX2 yX2_markOfHabit yX2_markOfHabit, Cond.code yX2_markOfHabit cX2_markOfHabit 2 (some .int), Cond.constantLong RX2 163 (100), Cond.methodLink RX2 148 yX2_markOfDecree, Cond.instanceMethod yX2_markOfDecree, Cond.selects RX2 yX2_markOfDecree yX2_markOfDecree, Cond.code yX2_markOfDecree cX2_markOfDecree 2 (some .int), Cond.constantLong RX2 165 (1000), Cond.methodLink RX2 151 yX2_markOfCustom, Cond.instanceMethod yX2_markOfCustom, Cond.selects RX2 yX2_markOfCustom yX2_markOfCustom, Cond.code yX2_markOfCustom cX2_markOfCustom 2 (some .int), Cond.constantLong RX2 167 (10000), Cond.fieldLink RX2 51 "HoldUnless" "on" "I", Cond.methodLink RX2 73 yX2_bitOf, Cond.static yX2_bitOf, Cond.code yX2_bitOf cX2_bitOf 2 (some .int), Cond.methodLink RX2 154 yX2_markOfOath, Cond.instanceMethod yX2_markOfOath, Cond.selects RX2 yX2_markOfOath yX2_markOfOath, Cond.code yX2_markOfOath cX2_markOfOath 2 (some .int), Cond.constantLong RX2 169 (100000)]
def wsX2_mark : List Cond := .code yX2_mark cX2_mark 3 (some .int) :: ((wsX2_mark_r1 ++ wsX2_mark_r2) ++ wsX20 ++ wsX00)
def wsX2_keep : List Cond := .code yX2_keep cX2_keep 2 (some .int) :: ([.fieldLink RX2 26 "HoldUnless" "imageOn" "[I", .fieldLink RX2 51 "HoldUnless" "on" "I", .fieldLink RX2 30 "HoldUnless" "imageAssumed" "[I", .fieldLink RX2 54 "HoldUnless" "assumed" "I", .fieldLink RX2 57 "HoldUnless" "imagesKept" "I", .methodLink RX2 135 yX2_isImage, .static yX2_isImage, .initialized RX2, .code yX2_isImage cX2_isImage 1 (some .boolean), .methodLink RX2 118 yJ6_bitCount_0f7a4, .static yJ6_bitCount_0f7a4, .initialized RJ6, .code yJ6_bitCount_0f7a4 cJ6_bitCount_0f7a4 1 (some .int), .constant RJ6 265 (1431655765), .constant RJ6 266 (858993459), .constant RJ6 267 (252645135)] ++ wsX20)
def wsX2_back : List Cond := .code yX2_back cX2_back 2 (some .int) :: ([.fieldLink RX2 57 "HoldUnless" "imagesKept" "I", .fieldLink RX2 26 "HoldUnless" "imageOn" "[I", .fieldLink RX2 51 "HoldUnless" "on" "I", .fieldLink RX2 30 "HoldUnless" "imageAssumed" "[I", .fieldLink RX2 54 "HoldUnless" "assumed" "I", .methodLink RX2 135 yX2_isImage, .static yX2_isImage, .initialized RX2, .code yX2_isImage cX2_isImage 1 (some .boolean), .methodLink RX2 73 yX2_bitOf, .static yX2_bitOf, .code yX2_bitOf cX2_bitOf 2 (some .int), .methodLink RX2 118 yJ6_bitCount_0f7a4, .static yJ6_bitCount_0f7a4, .initialized RJ6, .code yJ6_bitCount_0f7a4 cJ6_bitCount_0f7a4 1 (some .int), .constant RJ6 265 (1431655765), .constant RJ6 266 (858993459), .constant RJ6 267 (252645135)] ++ wsX20)
def wsX2_count : List Cond := .code yX2_count cX2_count 2 (some .int) :: ([.fieldLink RX2 19 "HoldUnless" "book" "LHoldUnless$RuleBook;", .fieldLink RX2 51 "HoldUnless" "on" "I", .fieldLink RX2 54 "HoldUnless" "assumed" "I", .fieldLink RX2 10 "HoldUnless" "text" "LHoldUnless$Text;", .methodLink RX2 118 yJ6_bitCount_0f7a4, .static yJ6_bitCount_0f7a4, .initialized RJ6, .code yJ6_bitCount_0f7a4 cJ6_bitCount_0f7a4 1 (some .int), .constant RJ6 265 (1431655765), .constant RJ6 266 (858993459), .constant RJ6 267 (252645135)] ++ wsX20 ++ wsX00 ++ wsX10)
def wsX2_trace : List Cond := .code yX2_trace cX2_trace 1 (some .long) :: ([.fieldLink RX2 157 "HoldUnless" "traceSum" "J"] ++ wsX20)
def wsX3_init : List Cond := .code yX3_init cX3_init 1 none :: ([.methodLink RX3 1 objectInit, .instanceMethod objectInit, .code objectInit ⟨#[0xb1]⟩ 1 none, .arrayClass .int, .fieldLink RX3 7 "HoldUnlessModel" "head" "[I", .fieldLink RX3 13 "HoldUnlessModel" "ifs" "[I", .fieldLink RX3 16 "HoldUnlessModel" "unless" "[I", .fieldLink RX3 19 "HoldUnlessModel" "text" "[I", .arrayClass .boolean, .fieldLink RX3 22 "HoldUnlessModel" "isKept" "[Z", .fieldLink RX3 26 "HoldUnlessModel" "keptOn" "[I", .fieldLink RX3 29 "HoldUnlessModel" "keptAssumed" "[I", .fieldLink RX3 32 "HoldUnlessModel" "readHead" "[I", .fieldLink RX3 35 "HoldUnlessModel" "readIfs" "[I", .fieldLink RX3 38 "HoldUnlessModel" "readUnless" "[I", .fieldLink RX3 41 "HoldUnlessModel" "round" "[I", .fieldLink RX3 44 "HoldUnlessModel" "by" "[I", .fieldLink RX3 47 "HoldUnlessModel" "now" "[I", .fieldLink RX3 50 "HoldUnlessModel" "other" "[I", .fieldLink RX3 53 "HoldUnlessModel" "even" "[I", .fieldLink RX3 56 "HoldUnlessModel" "odd" "[I"] ++ wsX30)
def wsX3_in : List Cond := .code yX3_in cX3_in 6 (some .boolean) :: ([])
def wsX3_has : List Cond := .code yX3_has cX3_has 2 (some .boolean) :: ([])
def wsX3_ones : List Cond := .code yX3_ones cX3_ones 3 (some .int) :: ([])
def wsX3_isRule : List Cond := .code yX3_isRule cX3_isRule 2 (some .boolean) :: ([.fieldLink RX3 59 "HoldUnlessModel" "rules" "I", .methodLink RX3 63 yX3_in, .static yX3_in, .initialized RX3, .code yX3_in cX3_in 6 (some .boolean)] ++ wsX30)
def wsX3_type : List Cond := .code yX3_type cX3_type 5 (some .int) :: ([.constantLong RX3 67 (8), .fieldLink RX3 69 "HoldUnlessModel" "texted" "I", .fieldLink RX3 19 "HoldUnlessModel" "text" "[I", .constantLong RX3 72 (255), .methodLink RX3 63 yX3_in, .static yX3_in, .initialized RX3, .code yX3_in cX3_in 6 (some .boolean)] ++ wsX30)
def wsX3_clear : List Cond := .code yX3_clear cX3_clear 2 (some .int) :: ([.fieldLink RX3 69 "HoldUnlessModel" "texted" "I"] ++ wsX30)
def wsX3_isLetter : List Cond := .code yX3_isLetter cX3_isLetter 1 (some .boolean) :: ([])
def wsX3_next : List Cond := .code yX3_next cX3_next 3 (some .int) :: ([.fieldLink RX3 74 "HoldUnlessModel" "at" "I", .fieldLink RX3 69 "HoldUnlessModel" "texted" "I", .fieldLink RX3 19 "HoldUnlessModel" "text" "[I", .fieldLink RX3 77 "HoldUnlessModel" "from" "I", .constantLong RX3 84 (32), .constantLong RX3 86 (96), .constantLong RX3 67 (8), .constantLong RX3 88 (294), .constantLong RX3 90 (719722099), .constantLong RX3 92 (14866610), .constantLong RX3 94 (13369), .methodLink RX3 80 yX3_isLetter, .static yX3_isLetter, .initialized RX3, .code yX3_isLetter cX3_isLetter 1 (some .boolean)] ++ wsX30)
def wsX3_goesTo : List Cond := .code yX3_goesTo cX3_goesTo 4 (some .int) :: ([.fieldLink RX3 96 "HoldUnlessModel" "readRules" "I"] ++ wsX30)
def wsX3_take : List Cond := .code yX3_take cX3_take 3 none :: ([.fieldLink RX3 32 "HoldUnlessModel" "readHead" "[I", .fieldLink RX3 96 "HoldUnlessModel" "readRules" "I", .fieldLink RX3 35 "HoldUnlessModel" "readIfs" "[I", .fieldLink RX3 38 "HoldUnlessModel" "readUnless" "[I", .fieldLink RX3 99 "HoldUnlessModel" "readMay" "I"] ++ wsX30)
def wsX3_rules_r1 : List Cond := [Cond.fieldLink RX3 74 "HoldUnlessModel" "at" "I", Cond.fieldLink RX3 96 "HoldUnlessModel" "readRules" "I", Cond.fieldLink RX3 99 "HoldUnlessModel" "readMay" "I", Cond.fieldLink RX3 77 "HoldUnlessModel" "from" "I", Cond.fieldLink RX3 69 "HoldUnlessModel" "texted" "I", Cond.fieldLink RX3 59 "HoldUnlessModel" "rules" "I", Cond.fieldLink RX3 7 "HoldUnlessModel" "head" "[I", Cond.fieldLink RX3 32 "HoldUnlessModel" "readHead" "[I", Cond.fieldLink RX3 13 "HoldUnlessModel" "ifs" "[I", Cond.fieldLink RX3 35 "HoldUnlessModel" "readIfs" "[I", Cond.fieldLink RX3 16 "HoldUnlessModel" "unless" "[I", Cond.fieldLink RX3 38 "HoldUnlessModel" "readUnless" "[I", Cond.fieldLink RX3 114 "HoldUnlessModel" "on" "I", Cond.fieldLink RX3 117 "HoldUnlessModel" "may" "I", Cond.fieldLink RX3 120 "HoldUnlessModel" "assumed" "I", Cond.fieldLink RX3 22 "HoldUnlessModel" "isKept" "[Z", Cond.methodLink RX3 102 yX3_next, Cond.instanceMethod yX3_next, Cond.selects RX3 yX3_next yX3_next, Cond.initialized RX3, Cond.code yX3_next cX3_next 3 (some .int), Cond.fieldLink RX3 19 "HoldUnlessModel" "text" "[I", Cond.constantLong RX3 84 (32), Cond.constantLong RX3 86 (96)]
def wsX3_rules_r2 : List Cond := [Cond.constantLong RX3 67 (8), Cond.constantLong RX3 88 (294), Cond.constantLong RX3 90 (719722099), Cond.constantLong RX3 92 (14866610), Cond.constantLong RX3 94 (13369), Cond.methodLink RX3 80 yX3_isLetter, Cond.static yX3_isLetter, Cond.code yX3_isLetter cX3_isLetter 1 (some .boolean), Cond.methodLink RX3 106 yX3_goesTo, Cond.instanceMethod yX3_goesTo, Cond.selects RX3 yX3_goesTo yX3_goesTo, Cond.code yX3_goesTo cX3_goesTo 4 (some .int), Cond.methodLink RX3 110 yX3_take, Cond.instanceMethod yX3_take, Cond.selects RX3 yX3_take yX3_take, Cond.code yX3_take cX3_take 3 none]
def wsX3_rules : List Cond := .code yX3_rules cX3_rules 5 (some .int) :: ((wsX3_rules_r1 ++ wsX3_rules_r2) ++ wsX30)
def wsX3_rule : List Cond := .code yX3_rule cX3_rule 3 (some .int) :: ([.constantLong RX3 126 (3), .fieldLink RX3 7 "HoldUnlessModel" "head" "[I", .fieldLink RX3 13 "HoldUnlessModel" "ifs" "[I", .fieldLink RX3 16 "HoldUnlessModel" "unless" "[I", .fieldLink RX3 114 "HoldUnlessModel" "on" "I", .methodLink RX3 123 yX3_isRule, .instanceMethod yX3_isRule, .selects RX3 yX3_isRule yX3_isRule, .initialized RX3, .code yX3_isRule cX3_isRule 2 (some .boolean), .fieldLink RX3 59 "HoldUnlessModel" "rules" "I", .methodLink RX3 63 yX3_in, .static yX3_in, .code yX3_in cX3_in 6 (some .boolean)] ++ wsX30)
def wsX3_turn : List Cond := .code yX3_turn cX3_turn 4 (some .int) :: ([.fieldLink RX3 114 "HoldUnlessModel" "on" "I", .methodLink RX3 123 yX3_isRule, .instanceMethod yX3_isRule, .selects RX3 yX3_isRule yX3_isRule, .initialized RX3, .code yX3_isRule cX3_isRule 2 (some .boolean), .fieldLink RX3 59 "HoldUnlessModel" "rules" "I", .methodLink RX3 63 yX3_in, .static yX3_in, .code yX3_in cX3_in 6 (some .boolean)] ++ wsX30)
def wsX3_assume : List Cond := .code yX3_assume cX3_assume 4 (some .int) :: ([.constantLong RX3 128 (7), .fieldLink RX3 120 "HoldUnlessModel" "assumed" "I", .methodLink RX3 63 yX3_in, .static yX3_in, .initialized RX3, .code yX3_in cX3_in 6 (some .boolean)] ++ wsX30)
def wsX3_grows : List Cond := .code yX3_grows cX3_grows 9 (some .int) :: ([.fieldLink RX3 41 "HoldUnlessModel" "round" "[I", .fieldLink RX3 44 "HoldUnlessModel" "by" "[I", .fieldLink RX3 59 "HoldUnlessModel" "rules" "I", .fieldLink RX3 7 "HoldUnlessModel" "head" "[I", .fieldLink RX3 16 "HoldUnlessModel" "unless" "[I", .fieldLink RX3 13 "HoldUnlessModel" "ifs" "[I", .methodLink RX3 130 yX3_has, .static yX3_has, .initialized RX3, .code yX3_has cX3_has 2 (some .boolean)] ++ wsX30)
def wsX3_isBanned : List Cond := .code yX3_isBanned cX3_isBanned 5 (some .boolean) :: ([.fieldLink RX3 59 "HoldUnlessModel" "rules" "I", .fieldLink RX3 7 "HoldUnlessModel" "head" "[I", .fieldLink RX3 13 "HoldUnlessModel" "ifs" "[I", .fieldLink RX3 16 "HoldUnlessModel" "unless" "[I", .methodLink RX3 130 yX3_has, .static yX3_has, .initialized RX3, .code yX3_has cX3_has 2 (some .boolean)] ++ wsX30)
def wsX3_doesStand : List Cond := .code yX3_doesStand cX3_doesStand 4 (some .boolean) :: ([.fieldLink RX3 117 "HoldUnlessModel" "may" "I", .methodLink RX3 134 yX3_isBanned, .instanceMethod yX3_isBanned, .selects RX3 yX3_isBanned yX3_isBanned, .initialized RX3, .code yX3_isBanned cX3_isBanned 5 (some .boolean), .fieldLink RX3 59 "HoldUnlessModel" "rules" "I", .fieldLink RX3 7 "HoldUnlessModel" "head" "[I", .fieldLink RX3 13 "HoldUnlessModel" "ifs" "[I", .fieldLink RX3 16 "HoldUnlessModel" "unless" "[I", .methodLink RX3 130 yX3_has, .static yX3_has, .code yX3_has cX3_has 2 (some .boolean), .methodLink RX3 137 yX3_grows, .instanceMethod yX3_grows, .selects RX3 yX3_grows yX3_grows, .code yX3_grows cX3_grows 9 (some .int), .fieldLink RX3 41 "HoldUnlessModel" "round" "[I", .fieldLink RX3 44 "HoldUnlessModel" "by" "[I"] ++ wsX30)
def wsX3_findAll : List Cond := .code yX3_findAll cX3_findAll 6 (some .int) :: ([.methodLink RX3 141 yX3_doesStand, .instanceMethod yX3_doesStand, .selects RX3 yX3_doesStand yX3_doesStand, .initialized RX3, .code yX3_doesStand cX3_doesStand 4 (some .boolean), .fieldLink RX3 117 "HoldUnlessModel" "may" "I", .methodLink RX3 134 yX3_isBanned, .instanceMethod yX3_isBanned, .selects RX3 yX3_isBanned yX3_isBanned, .code yX3_isBanned cX3_isBanned 5 (some .boolean), .fieldLink RX3 59 "HoldUnlessModel" "rules" "I", .fieldLink RX3 7 "HoldUnlessModel" "head" "[I", .fieldLink RX3 13 "HoldUnlessModel" "ifs" "[I", .fieldLink RX3 16 "HoldUnlessModel" "unless" "[I", .methodLink RX3 130 yX3_has, .static yX3_has, .code yX3_has cX3_has 2 (some .boolean), .methodLink RX3 137 yX3_grows, .instanceMethod yX3_grows, .selects RX3 yX3_grows yX3_grows, .code yX3_grows cX3_grows 9 (some .int), .fieldLink RX3 41 "HoldUnlessModel" "round" "[I", .fieldLink RX3 44 "HoldUnlessModel" "by" "[I"] ++ wsX30)
def wsX3_ofAll : List Cond := .code yX3_ofAll cX3_ofAll 4 (some .int) :: ([.fieldLink RX3 47 "HoldUnlessModel" "now" "[I", .methodLink RX3 130 yX3_has, .static yX3_has, .initialized RX3, .code yX3_has cX3_has 2 (some .boolean)] ++ wsX30)
def wsX3_sets_r1 : List Cond := [Cond.fieldLink RX3 47 "HoldUnlessModel" "now" "[I", Cond.fieldLink RX3 114 "HoldUnlessModel" "on" "I", Cond.fieldLink RX3 120 "HoldUnlessModel" "assumed" "I", Cond.methodLink RX3 145 yX3_findAll, Cond.instanceMethod yX3_findAll, Cond.selects RX3 yX3_findAll yX3_findAll, Cond.initialized RX3, Cond.code yX3_findAll cX3_findAll 6 (some .int), Cond.methodLink RX3 141 yX3_doesStand, Cond.instanceMethod yX3_doesStand, Cond.selects RX3 yX3_doesStand yX3_doesStand, Cond.code yX3_doesStand cX3_doesStand 4 (some .boolean), Cond.fieldLink RX3 117 "HoldUnlessModel" "may" "I", Cond.methodLink RX3 134 yX3_isBanned, Cond.instanceMethod yX3_isBanned, Cond.selects RX3 yX3_isBanned yX3_isBanned, Cond.code yX3_isBanned cX3_isBanned 5 (some .boolean), Cond.fieldLink RX3 59 "HoldUnlessModel" "rules" "I", Cond.fieldLink RX3 7 "HoldUnlessModel" "head" "[I", Cond.fieldLink RX3 13 "HoldUnlessModel" "ifs" "[I", Cond.fieldLink RX3 16 "HoldUnlessModel" "unless" "[I", Cond.methodLink RX3 130 yX3_has, Cond.static yX3_has, Cond.code yX3_has cX3_has 2 (some .boolean)]
def wsX3_sets_r2 : List Cond := [Cond.methodLink RX3 137 yX3_grows, Cond.instanceMethod yX3_grows, Cond.selects RX3 yX3_grows yX3_grows, Cond.code yX3_grows cX3_grows 9 (some .int), Cond.fieldLink RX3 41 "HoldUnlessModel" "round" "[I", Cond.fieldLink RX3 44 "HoldUnlessModel" "by" "[I"]
def wsX3_sets : List Cond := .code yX3_sets cX3_sets 1 (some .int) :: ((wsX3_sets_r1 ++ wsX3_sets_r2) ++ wsX30)
def wsX3_set_r1 : List Cond := [Cond.fieldLink RX3 47 "HoldUnlessModel" "now" "[I", Cond.fieldLink RX3 114 "HoldUnlessModel" "on" "I", Cond.fieldLink RX3 120 "HoldUnlessModel" "assumed" "I", Cond.methodLink RX3 145 yX3_findAll, Cond.instanceMethod yX3_findAll, Cond.selects RX3 yX3_findAll yX3_findAll, Cond.initialized RX3, Cond.code yX3_findAll cX3_findAll 6 (some .int), Cond.methodLink RX3 141 yX3_doesStand, Cond.instanceMethod yX3_doesStand, Cond.selects RX3 yX3_doesStand yX3_doesStand, Cond.code yX3_doesStand cX3_doesStand 4 (some .boolean), Cond.fieldLink RX3 117 "HoldUnlessModel" "may" "I", Cond.methodLink RX3 134 yX3_isBanned, Cond.instanceMethod yX3_isBanned, Cond.selects RX3 yX3_isBanned yX3_isBanned, Cond.code yX3_isBanned cX3_isBanned 5 (some .boolean), Cond.fieldLink RX3 59 "HoldUnlessModel" "rules" "I", Cond.fieldLink RX3 7 "HoldUnlessModel" "head" "[I", Cond.fieldLink RX3 13 "HoldUnlessModel" "ifs" "[I", Cond.fieldLink RX3 16 "HoldUnlessModel" "unless" "[I", Cond.methodLink RX3 130 yX3_has, Cond.static yX3_has, Cond.code yX3_has cX3_has 2 (some .boolean)]
def wsX3_set_r2 : List Cond := [Cond.methodLink RX3 137 yX3_grows, Cond.instanceMethod yX3_grows, Cond.selects RX3 yX3_grows yX3_grows, Cond.code yX3_grows cX3_grows 9 (some .int), Cond.fieldLink RX3 41 "HoldUnlessModel" "round" "[I", Cond.fieldLink RX3 44 "HoldUnlessModel" "by" "[I", Cond.methodLink RX3 149 yX3_ofAll, Cond.instanceMethod yX3_ofAll, Cond.selects RX3 yX3_ofAll yX3_ofAll, Cond.code yX3_ofAll cX3_ofAll 4 (some .int)]
def wsX3_set : List Cond := .code yX3_set cX3_set 2 (some .int) :: ((wsX3_set_r1 ++ wsX3_set_r2) ++ wsX30)
def wsX3_stands_r1 : List Cond := [Cond.constantLong RX3 72 (255), Cond.fieldLink RX3 114 "HoldUnlessModel" "on" "I", Cond.fieldLink RX3 120 "HoldUnlessModel" "assumed" "I", Cond.methodLink RX3 63 yX3_in, Cond.static yX3_in, Cond.initialized RX3, Cond.code yX3_in cX3_in 6 (some .boolean), Cond.methodLink RX3 141 yX3_doesStand, Cond.instanceMethod yX3_doesStand, Cond.selects RX3 yX3_doesStand yX3_doesStand, Cond.code yX3_doesStand cX3_doesStand 4 (some .boolean), Cond.fieldLink RX3 117 "HoldUnlessModel" "may" "I", Cond.methodLink RX3 134 yX3_isBanned, Cond.instanceMethod yX3_isBanned, Cond.selects RX3 yX3_isBanned yX3_isBanned, Cond.code yX3_isBanned cX3_isBanned 5 (some .boolean), Cond.fieldLink RX3 59 "HoldUnlessModel" "rules" "I", Cond.fieldLink RX3 7 "HoldUnlessModel" "head" "[I", Cond.fieldLink RX3 13 "HoldUnlessModel" "ifs" "[I", Cond.fieldLink RX3 16 "HoldUnlessModel" "unless" "[I", Cond.methodLink RX3 130 yX3_has, Cond.static yX3_has, Cond.code yX3_has cX3_has 2 (some .boolean), Cond.methodLink RX3 137 yX3_grows]
def wsX3_stands_r2 : List Cond := [Cond.instanceMethod yX3_grows, Cond.selects RX3 yX3_grows yX3_grows, Cond.code yX3_grows cX3_grows 9 (some .int), Cond.fieldLink RX3 41 "HoldUnlessModel" "round" "[I", Cond.fieldLink RX3 44 "HoldUnlessModel" "by" "[I"]
def wsX3_stands : List Cond := .code yX3_stands cX3_stands 2 (some .int) :: ((wsX3_stands_r1 ++ wsX3_stands_r2) ++ wsX30)
def wsX3_holds_r1 : List Cond := [Cond.fieldLink RX3 114 "HoldUnlessModel" "on" "I", Cond.fieldLink RX3 120 "HoldUnlessModel" "assumed" "I", Cond.methodLink RX3 63 yX3_in, Cond.static yX3_in, Cond.initialized RX3, Cond.code yX3_in cX3_in 6 (some .boolean), Cond.methodLink RX3 141 yX3_doesStand, Cond.instanceMethod yX3_doesStand, Cond.selects RX3 yX3_doesStand yX3_doesStand, Cond.code yX3_doesStand cX3_doesStand 4 (some .boolean), Cond.fieldLink RX3 117 "HoldUnlessModel" "may" "I", Cond.methodLink RX3 134 yX3_isBanned, Cond.instanceMethod yX3_isBanned, Cond.selects RX3 yX3_isBanned yX3_isBanned, Cond.code yX3_isBanned cX3_isBanned 5 (some .boolean), Cond.fieldLink RX3 59 "HoldUnlessModel" "rules" "I", Cond.fieldLink RX3 7 "HoldUnlessModel" "head" "[I", Cond.fieldLink RX3 13 "HoldUnlessModel" "ifs" "[I", Cond.fieldLink RX3 16 "HoldUnlessModel" "unless" "[I", Cond.methodLink RX3 130 yX3_has, Cond.static yX3_has, Cond.code yX3_has cX3_has 2 (some .boolean), Cond.methodLink RX3 137 yX3_grows, Cond.instanceMethod yX3_grows]
def wsX3_holds_r2 : List Cond := [Cond.selects RX3 yX3_grows yX3_grows, Cond.code yX3_grows cX3_grows 9 (some .int), Cond.fieldLink RX3 41 "HoldUnlessModel" "round" "[I", Cond.fieldLink RX3 44 "HoldUnlessModel" "by" "[I"]
def wsX3_holds : List Cond := .code yX3_holds cX3_holds 6 (some .int) :: ((wsX3_holds_r1 ++ wsX3_holds_r2) ++ wsX30)
def wsX3_known : List Cond := .code yX3_known cX3_known 5 (some .int) :: ([.constantLong RX3 128 (7), .fieldLink RX3 120 "HoldUnlessModel" "assumed" "I", .fieldLink RX3 114 "HoldUnlessModel" "on" "I", .fieldLink RX3 117 "HoldUnlessModel" "may" "I", .methodLink RX3 63 yX3_in, .static yX3_in, .initialized RX3, .code yX3_in cX3_in 6 (some .boolean), .methodLink RX3 137 yX3_grows, .instanceMethod yX3_grows, .selects RX3 yX3_grows yX3_grows, .code yX3_grows cX3_grows 9 (some .int), .fieldLink RX3 41 "HoldUnlessModel" "round" "[I", .fieldLink RX3 44 "HoldUnlessModel" "by" "[I", .fieldLink RX3 59 "HoldUnlessModel" "rules" "I", .fieldLink RX3 7 "HoldUnlessModel" "head" "[I", .fieldLink RX3 16 "HoldUnlessModel" "unless" "[I", .fieldLink RX3 13 "HoldUnlessModel" "ifs" "[I", .methodLink RX3 130 yX3_has, .static yX3_has, .code yX3_has cX3_has 2 (some .boolean)] ++ wsX30)
def wsX3_why_r1 : List Cond := [Cond.constantLong RX3 128 (7), Cond.fieldLink RX3 120 "HoldUnlessModel" "assumed" "I", Cond.fieldLink RX3 117 "HoldUnlessModel" "may" "I", Cond.fieldLink RX3 114 "HoldUnlessModel" "on" "I", Cond.fieldLink RX3 41 "HoldUnlessModel" "round" "[I", Cond.fieldLink RX3 44 "HoldUnlessModel" "by" "[I", Cond.methodLink RX3 63 yX3_in, Cond.static yX3_in, Cond.initialized RX3, Cond.code yX3_in cX3_in 6 (some .boolean), Cond.methodLink RX3 153 yX3_set, Cond.instanceMethod yX3_set, Cond.selects RX3 yX3_set yX3_set, Cond.code yX3_set cX3_set 2 (some .int), Cond.fieldLink RX3 47 "HoldUnlessModel" "now" "[I", Cond.methodLink RX3 145 yX3_findAll, Cond.instanceMethod yX3_findAll, Cond.selects RX3 yX3_findAll yX3_findAll, Cond.code yX3_findAll cX3_findAll 6 (some .int), Cond.methodLink RX3 141 yX3_doesStand, Cond.instanceMethod yX3_doesStand, Cond.selects RX3 yX3_doesStand yX3_doesStand, Cond.code yX3_doesStand cX3_doesStand 4 (some .boolean), Cond.methodLink RX3 134 yX3_isBanned]
def wsX3_why_r2 : List Cond := [Cond.instanceMethod yX3_isBanned, Cond.selects RX3 yX3_isBanned yX3_isBanned, Cond.code yX3_isBanned cX3_isBanned 5 (some .boolean), Cond.fieldLink RX3 59 "HoldUnlessModel" "rules" "I", Cond.fieldLink RX3 7 "HoldUnlessModel" "head" "[I", Cond.fieldLink RX3 13 "HoldUnlessModel" "ifs" "[I", Cond.fieldLink RX3 16 "HoldUnlessModel" "unless" "[I", Cond.methodLink RX3 130 yX3_has, Cond.static yX3_has, Cond.code yX3_has cX3_has 2 (some .boolean), Cond.methodLink RX3 137 yX3_grows, Cond.instanceMethod yX3_grows, Cond.selects RX3 yX3_grows yX3_grows, Cond.code yX3_grows cX3_grows 9 (some .int), Cond.methodLink RX3 149 yX3_ofAll, Cond.instanceMethod yX3_ofAll, Cond.selects RX3 yX3_ofAll yX3_ofAll, Cond.code yX3_ofAll cX3_ofAll 4 (some .int)]
def wsX3_why : List Cond := .code yX3_why cX3_why 5 (some .int) :: ((wsX3_why_r1 ++ wsX3_why_r2) ++ wsX30)
def wsX3_findHangs : List Cond := .code yX3_findHangs cX3_findHangs 7 none :: ([.fieldLink RX3 53 "HoldUnlessModel" "even" "[I", .fieldLink RX3 56 "HoldUnlessModel" "odd" "[I", .fieldLink RX3 59 "HoldUnlessModel" "rules" "I", .fieldLink RX3 114 "HoldUnlessModel" "on" "I", .fieldLink RX3 7 "HoldUnlessModel" "head" "[I", .fieldLink RX3 13 "HoldUnlessModel" "ifs" "[I", .fieldLink RX3 16 "HoldUnlessModel" "unless" "[I", .methodLink RX3 130 yX3_has, .static yX3_has, .initialized RX3, .code yX3_has cX3_has 2 (some .boolean)] ++ wsX30)
def wsX3_hangs : List Cond := .code yX3_hangs cX3_hangs 4 (some .int) :: ([.fieldLink RX3 53 "HoldUnlessModel" "even" "[I", .fieldLink RX3 56 "HoldUnlessModel" "odd" "[I", .methodLink RX3 63 yX3_in, .static yX3_in, .initialized RX3, .code yX3_in cX3_in 6 (some .boolean), .methodLink RX3 156 yX3_findHangs, .instanceMethod yX3_findHangs, .selects RX3 yX3_findHangs yX3_findHangs, .code yX3_findHangs cX3_findHangs 7 none, .fieldLink RX3 59 "HoldUnlessModel" "rules" "I", .fieldLink RX3 114 "HoldUnlessModel" "on" "I", .fieldLink RX3 7 "HoldUnlessModel" "head" "[I", .fieldLink RX3 13 "HoldUnlessModel" "ifs" "[I", .fieldLink RX3 16 "HoldUnlessModel" "unless" "[I", .methodLink RX3 130 yX3_has, .static yX3_has, .code yX3_has cX3_has 2 (some .boolean)] ++ wsX30)
def wsX3_isInSome : List Cond := .code yX3_isInSome cX3_isInSome 4 (some .boolean) :: ([.fieldLink RX3 114 "HoldUnlessModel" "on" "I", .methodLink RX3 130 yX3_has, .static yX3_has, .initialized RX3, .code yX3_has cX3_has 2 (some .boolean), .methodLink RX3 141 yX3_doesStand, .instanceMethod yX3_doesStand, .selects RX3 yX3_doesStand yX3_doesStand, .code yX3_doesStand cX3_doesStand 4 (some .boolean), .fieldLink RX3 117 "HoldUnlessModel" "may" "I", .methodLink RX3 134 yX3_isBanned, .instanceMethod yX3_isBanned, .selects RX3 yX3_isBanned yX3_isBanned, .code yX3_isBanned cX3_isBanned 5 (some .boolean), .fieldLink RX3 59 "HoldUnlessModel" "rules" "I", .fieldLink RX3 7 "HoldUnlessModel" "head" "[I", .fieldLink RX3 13 "HoldUnlessModel" "ifs" "[I", .fieldLink RX3 16 "HoldUnlessModel" "unless" "[I", .methodLink RX3 137 yX3_grows, .instanceMethod yX3_grows, .selects RX3 yX3_grows yX3_grows, .code yX3_grows cX3_grows 9 (some .int), .fieldLink RX3 41 "HoldUnlessModel" "round" "[I", .fieldLink RX3 44 "HoldUnlessModel" "by" "[I"] ++ wsX30)
def wsX3_explains_r1 : List Cond := [Cond.constantLong RX3 128 (7), Cond.constantLong RX3 72 (255), Cond.fieldLink RX3 120 "HoldUnlessModel" "assumed" "I", Cond.methodLink RX3 63 yX3_in, Cond.static yX3_in, Cond.initialized RX3, Cond.code yX3_in cX3_in 6 (some .boolean), Cond.methodLink RX3 160 yX3_ones, Cond.static yX3_ones, Cond.code yX3_ones cX3_ones 3 (some .int), Cond.methodLink RX3 163 yX3_isInSome, Cond.instanceMethod yX3_isInSome, Cond.selects RX3 yX3_isInSome yX3_isInSome, Cond.code yX3_isInSome cX3_isInSome 4 (some .boolean), Cond.fieldLink RX3 114 "HoldUnlessModel" "on" "I", Cond.methodLink RX3 130 yX3_has, Cond.static yX3_has, Cond.code yX3_has cX3_has 2 (some .boolean), Cond.methodLink RX3 141 yX3_doesStand, Cond.instanceMethod yX3_doesStand, Cond.selects RX3 yX3_doesStand yX3_doesStand, Cond.code yX3_doesStand cX3_doesStand 4 (some .boolean), Cond.fieldLink RX3 117 "HoldUnlessModel" "may" "I", Cond.methodLink RX3 134 yX3_isBanned]
def wsX3_explains_r2 : List Cond := [Cond.instanceMethod yX3_isBanned, Cond.selects RX3 yX3_isBanned yX3_isBanned, Cond.code yX3_isBanned cX3_isBanned 5 (some .boolean), Cond.fieldLink RX3 59 "HoldUnlessModel" "rules" "I", Cond.fieldLink RX3 7 "HoldUnlessModel" "head" "[I", Cond.fieldLink RX3 13 "HoldUnlessModel" "ifs" "[I", Cond.fieldLink RX3 16 "HoldUnlessModel" "unless" "[I", Cond.methodLink RX3 137 yX3_grows, Cond.instanceMethod yX3_grows, Cond.selects RX3 yX3_grows yX3_grows, Cond.code yX3_grows cX3_grows 9 (some .int), Cond.fieldLink RX3 41 "HoldUnlessModel" "round" "[I", Cond.fieldLink RX3 44 "HoldUnlessModel" "by" "[I"]
def wsX3_explains : List Cond := .code yX3_explains cX3_explains 6 (some .int) :: ((wsX3_explains_r1 ++ wsX3_explains_r2) ++ wsX30)
def wsX3_isAny : List Cond := .code yX3_isAny cX3_isAny 3 (some .boolean) :: ([.fieldLink RX3 120 "HoldUnlessModel" "assumed" "I", .methodLink RX3 141 yX3_doesStand, .instanceMethod yX3_doesStand, .selects RX3 yX3_doesStand yX3_doesStand, .initialized RX3, .code yX3_doesStand cX3_doesStand 4 (some .boolean), .fieldLink RX3 117 "HoldUnlessModel" "may" "I", .methodLink RX3 134 yX3_isBanned, .instanceMethod yX3_isBanned, .selects RX3 yX3_isBanned yX3_isBanned, .code yX3_isBanned cX3_isBanned 5 (some .boolean), .fieldLink RX3 59 "HoldUnlessModel" "rules" "I", .fieldLink RX3 7 "HoldUnlessModel" "head" "[I", .fieldLink RX3 13 "HoldUnlessModel" "ifs" "[I", .fieldLink RX3 16 "HoldUnlessModel" "unless" "[I", .methodLink RX3 130 yX3_has, .static yX3_has, .code yX3_has cX3_has 2 (some .boolean), .methodLink RX3 137 yX3_grows, .instanceMethod yX3_grows, .selects RX3 yX3_grows yX3_grows, .code yX3_grows cX3_grows 9 (some .int), .fieldLink RX3 41 "HoldUnlessModel" "round" "[I", .fieldLink RX3 44 "HoldUnlessModel" "by" "[I"] ++ wsX30)
def wsX3_givesUp_r1 : List Cond := [Cond.fieldLink RX3 114 "HoldUnlessModel" "on" "I", Cond.methodLink RX3 160 yX3_ones, Cond.static yX3_ones, Cond.initialized RX3, Cond.code yX3_ones cX3_ones 3 (some .int), Cond.methodLink RX3 166 yX3_isAny, Cond.instanceMethod yX3_isAny, Cond.selects RX3 yX3_isAny yX3_isAny, Cond.code yX3_isAny cX3_isAny 3 (some .boolean), Cond.fieldLink RX3 120 "HoldUnlessModel" "assumed" "I", Cond.methodLink RX3 141 yX3_doesStand, Cond.instanceMethod yX3_doesStand, Cond.selects RX3 yX3_doesStand yX3_doesStand, Cond.code yX3_doesStand cX3_doesStand 4 (some .boolean), Cond.fieldLink RX3 117 "HoldUnlessModel" "may" "I", Cond.methodLink RX3 134 yX3_isBanned, Cond.instanceMethod yX3_isBanned, Cond.selects RX3 yX3_isBanned yX3_isBanned, Cond.code yX3_isBanned cX3_isBanned 5 (some .boolean), Cond.fieldLink RX3 59 "HoldUnlessModel" "rules" "I", Cond.fieldLink RX3 7 "HoldUnlessModel" "head" "[I", Cond.fieldLink RX3 13 "HoldUnlessModel" "ifs" "[I", Cond.fieldLink RX3 16 "HoldUnlessModel" "unless" "[I", Cond.methodLink RX3 130 yX3_has]
def wsX3_givesUp_r2 : List Cond := [Cond.static yX3_has, Cond.code yX3_has cX3_has 2 (some .boolean), Cond.methodLink RX3 137 yX3_grows, Cond.instanceMethod yX3_grows, Cond.selects RX3 yX3_grows yX3_grows, Cond.code yX3_grows cX3_grows 9 (some .int), Cond.fieldLink RX3 41 "HoldUnlessModel" "round" "[I", Cond.fieldLink RX3 44 "HoldUnlessModel" "by" "[I"]
def wsX3_givesUp : List Cond := .code yX3_givesUp cX3_givesUp 4 (some .int) :: ((wsX3_givesUp_r1 ++ wsX3_givesUp_r2) ++ wsX30)
def wsX3_areSame_r1 : List Cond := [Cond.fieldLink RX3 47 "HoldUnlessModel" "now" "[I", Cond.fieldLink RX3 114 "HoldUnlessModel" "on" "I", Cond.fieldLink RX3 120 "HoldUnlessModel" "assumed" "I", Cond.fieldLink RX3 50 "HoldUnlessModel" "other" "[I", Cond.methodLink RX3 145 yX3_findAll, Cond.instanceMethod yX3_findAll, Cond.selects RX3 yX3_findAll yX3_findAll, Cond.initialized RX3, Cond.code yX3_findAll cX3_findAll 6 (some .int), Cond.methodLink RX3 141 yX3_doesStand, Cond.instanceMethod yX3_doesStand, Cond.selects RX3 yX3_doesStand yX3_doesStand, Cond.code yX3_doesStand cX3_doesStand 4 (some .boolean), Cond.fieldLink RX3 117 "HoldUnlessModel" "may" "I", Cond.methodLink RX3 134 yX3_isBanned, Cond.instanceMethod yX3_isBanned, Cond.selects RX3 yX3_isBanned yX3_isBanned, Cond.code yX3_isBanned cX3_isBanned 5 (some .boolean), Cond.fieldLink RX3 59 "HoldUnlessModel" "rules" "I", Cond.fieldLink RX3 7 "HoldUnlessModel" "head" "[I", Cond.fieldLink RX3 13 "HoldUnlessModel" "ifs" "[I", Cond.fieldLink RX3 16 "HoldUnlessModel" "unless" "[I", Cond.methodLink RX3 130 yX3_has, Cond.static yX3_has]
def wsX3_areSame_r2 : List Cond := [Cond.code yX3_has cX3_has 2 (some .boolean), Cond.methodLink RX3 137 yX3_grows, Cond.instanceMethod yX3_grows, Cond.selects RX3 yX3_grows yX3_grows, Cond.code yX3_grows cX3_grows 9 (some .int), Cond.fieldLink RX3 41 "HoldUnlessModel" "round" "[I", Cond.fieldLink RX3 44 "HoldUnlessModel" "by" "[I"]
def wsX3_areSame : List Cond := .code yX3_areSame cX3_areSame 5 (some .boolean) :: ((wsX3_areSame_r1 ++ wsX3_areSame_r2) ++ wsX30)
def wsX3_idle_r1 : List Cond := [Cond.fieldLink RX3 114 "HoldUnlessModel" "on" "I", Cond.fieldLink RX3 120 "HoldUnlessModel" "assumed" "I", Cond.methodLink RX3 123 yX3_isRule, Cond.instanceMethod yX3_isRule, Cond.selects RX3 yX3_isRule yX3_isRule, Cond.initialized RX3, Cond.code yX3_isRule cX3_isRule 2 (some .boolean), Cond.fieldLink RX3 59 "HoldUnlessModel" "rules" "I", Cond.methodLink RX3 63 yX3_in, Cond.static yX3_in, Cond.code yX3_in cX3_in 6 (some .boolean), Cond.methodLink RX3 130 yX3_has, Cond.static yX3_has, Cond.code yX3_has cX3_has 2 (some .boolean), Cond.methodLink RX3 169 yX3_areSame, Cond.instanceMethod yX3_areSame, Cond.selects RX3 yX3_areSame yX3_areSame, Cond.code yX3_areSame cX3_areSame 5 (some .boolean), Cond.fieldLink RX3 47 "HoldUnlessModel" "now" "[I", Cond.fieldLink RX3 50 "HoldUnlessModel" "other" "[I", Cond.methodLink RX3 145 yX3_findAll, Cond.instanceMethod yX3_findAll, Cond.selects RX3 yX3_findAll yX3_findAll, Cond.code yX3_findAll cX3_findAll 6 (some .int)]
def wsX3_idle_r2 : List Cond := [Cond.methodLink RX3 141 yX3_doesStand, Cond.instanceMethod yX3_doesStand, Cond.selects RX3 yX3_doesStand yX3_doesStand, Cond.code yX3_doesStand cX3_doesStand 4 (some .boolean), Cond.fieldLink RX3 117 "HoldUnlessModel" "may" "I", Cond.methodLink RX3 134 yX3_isBanned, Cond.instanceMethod yX3_isBanned, Cond.selects RX3 yX3_isBanned yX3_isBanned, Cond.code yX3_isBanned cX3_isBanned 5 (some .boolean), Cond.fieldLink RX3 7 "HoldUnlessModel" "head" "[I", Cond.fieldLink RX3 13 "HoldUnlessModel" "ifs" "[I", Cond.fieldLink RX3 16 "HoldUnlessModel" "unless" "[I", Cond.methodLink RX3 137 yX3_grows, Cond.instanceMethod yX3_grows, Cond.selects RX3 yX3_grows yX3_grows, Cond.code yX3_grows cX3_grows 9 (some .int), Cond.fieldLink RX3 41 "HoldUnlessModel" "round" "[I", Cond.fieldLink RX3 44 "HoldUnlessModel" "by" "[I"]
def wsX3_idle : List Cond := .code yX3_idle cX3_idle 2 (some .int) :: ((wsX3_idle_r1 ++ wsX3_idle_r2) ++ wsX30)
def wsX3_alike_r1 : List Cond := [Cond.fieldLink RX3 22 "HoldUnlessModel" "isKept" "[Z", Cond.fieldLink RX3 26 "HoldUnlessModel" "keptOn" "[I", Cond.fieldLink RX3 29 "HoldUnlessModel" "keptAssumed" "[I", Cond.methodLink RX3 63 yX3_in, Cond.static yX3_in, Cond.initialized RX3, Cond.code yX3_in cX3_in 6 (some .boolean), Cond.methodLink RX3 169 yX3_areSame, Cond.instanceMethod yX3_areSame, Cond.selects RX3 yX3_areSame yX3_areSame, Cond.code yX3_areSame cX3_areSame 5 (some .boolean), Cond.fieldLink RX3 47 "HoldUnlessModel" "now" "[I", Cond.fieldLink RX3 114 "HoldUnlessModel" "on" "I", Cond.fieldLink RX3 120 "HoldUnlessModel" "assumed" "I", Cond.fieldLink RX3 50 "HoldUnlessModel" "other" "[I", Cond.methodLink RX3 145 yX3_findAll, Cond.instanceMethod yX3_findAll, Cond.selects RX3 yX3_findAll yX3_findAll, Cond.code yX3_findAll cX3_findAll 6 (some .int), Cond.methodLink RX3 141 yX3_doesStand, Cond.instanceMethod yX3_doesStand, Cond.selects RX3 yX3_doesStand yX3_doesStand, Cond.code yX3_doesStand cX3_doesStand 4 (some .boolean), Cond.fieldLink RX3 117 "HoldUnlessModel" "may" "I"]
def wsX3_alike_r2 : List Cond := [Cond.methodLink RX3 134 yX3_isBanned, Cond.instanceMethod yX3_isBanned, Cond.selects RX3 yX3_isBanned yX3_isBanned, Cond.code yX3_isBanned cX3_isBanned 5 (some .boolean), Cond.fieldLink RX3 59 "HoldUnlessModel" "rules" "I", Cond.fieldLink RX3 7 "HoldUnlessModel" "head" "[I", Cond.fieldLink RX3 13 "HoldUnlessModel" "ifs" "[I", Cond.fieldLink RX3 16 "HoldUnlessModel" "unless" "[I", Cond.methodLink RX3 130 yX3_has, Cond.static yX3_has, Cond.code yX3_has cX3_has 2 (some .boolean), Cond.methodLink RX3 137 yX3_grows, Cond.instanceMethod yX3_grows, Cond.selects RX3 yX3_grows yX3_grows, Cond.code yX3_grows cX3_grows 9 (some .int), Cond.fieldLink RX3 41 "HoldUnlessModel" "round" "[I", Cond.fieldLink RX3 44 "HoldUnlessModel" "by" "[I"]
def wsX3_alike : List Cond := .code yX3_alike cX3_alike 2 (some .int) :: ((wsX3_alike_r1 ++ wsX3_alike_r2) ++ wsX30)
def wsX3_mark : List Cond := .code yX3_mark cX3_mark 4 (some .int) :: ([.constantLong RX3 172 (5), .constant RX3 174 (-1000000), .fieldLink RX3 13 "HoldUnlessModel" "ifs" "[I", .fieldLink RX3 16 "HoldUnlessModel" "unless" "[I", .fieldLink RX3 175 "HoldUnlessModel" "trace" "J", .constantLong RX3 179 (10), .constantLong RX3 181 (100), .constantLong RX3 183 (1010), .constantLong RX3 185 (10100), .fieldLink RX3 114 "HoldUnlessModel" "on" "I", .constantLong RX3 187 (100000), .fieldLink RX3 7 "HoldUnlessModel" "head" "[I", .methodLink RX3 63 yX3_in, .static yX3_in, .initialized RX3, .code yX3_in cX3_in 6 (some .boolean), .methodLink RX3 123 yX3_isRule, .instanceMethod yX3_isRule, .selects RX3 yX3_isRule yX3_isRule, .code yX3_isRule cX3_isRule 2 (some .boolean), .fieldLink RX3 59 "HoldUnlessModel" "rules" "I", .methodLink RX3 160 yX3_ones, .static yX3_ones, .code yX3_ones cX3_ones 3 (some .int)] ++ wsX30)
def wsX3_keep : List Cond := .code yX3_keep cX3_keep 2 (some .int) :: ([.fieldLink RX3 22 "HoldUnlessModel" "isKept" "[Z", .fieldLink RX3 26 "HoldUnlessModel" "keptOn" "[I", .fieldLink RX3 114 "HoldUnlessModel" "on" "I", .fieldLink RX3 29 "HoldUnlessModel" "keptAssumed" "[I", .fieldLink RX3 120 "HoldUnlessModel" "assumed" "I", .methodLink RX3 63 yX3_in, .static yX3_in, .initialized RX3, .code yX3_in cX3_in 6 (some .boolean), .methodLink RX3 160 yX3_ones, .static yX3_ones, .code yX3_ones cX3_ones 3 (some .int)] ++ wsX30)
def wsX3_back : List Cond := .code yX3_back cX3_back 2 (some .int) :: ([.fieldLink RX3 22 "HoldUnlessModel" "isKept" "[Z", .fieldLink RX3 26 "HoldUnlessModel" "keptOn" "[I", .fieldLink RX3 114 "HoldUnlessModel" "on" "I", .fieldLink RX3 29 "HoldUnlessModel" "keptAssumed" "[I", .fieldLink RX3 120 "HoldUnlessModel" "assumed" "I", .methodLink RX3 63 yX3_in, .static yX3_in, .initialized RX3, .code yX3_in cX3_in 6 (some .boolean), .methodLink RX3 160 yX3_ones, .static yX3_ones, .code yX3_ones cX3_ones 3 (some .int)] ++ wsX30)
def wsX3_count : List Cond := .code yX3_count cX3_count 2 (some .int) :: ([.fieldLink RX3 59 "HoldUnlessModel" "rules" "I", .fieldLink RX3 114 "HoldUnlessModel" "on" "I", .fieldLink RX3 117 "HoldUnlessModel" "may" "I", .fieldLink RX3 120 "HoldUnlessModel" "assumed" "I", .fieldLink RX3 69 "HoldUnlessModel" "texted" "I", .methodLink RX3 160 yX3_ones, .static yX3_ones, .initialized RX3, .code yX3_ones cX3_ones 3 (some .int)] ++ wsX30)
def wsX3_trace : List Cond := .code yX3_trace cX3_trace 1 (some .long) :: ([.fieldLink RX3 175 "HoldUnlessModel" "trace" "J"] ++ wsX30)
def wsL_law_r1 : List Cond := [Cond.classLink RL 7 RX2, Cond.instantiable RX2 9, Cond.initialized RX2, Cond.classLink RL 10 RX3, Cond.instantiable RX3 26, Cond.initialized RX3, Cond.constantLong RL 13 (4294967295), Cond.methodLink RL 9 yX2_init, Cond.instanceMethod yX2_init, Cond.code yX2_init cX2_init 1 none, Cond.methodLink RX2 1 objectInit, Cond.instanceMethod objectInit, Cond.code objectInit ⟨#[0xb1]⟩ 1 none, Cond.classLink RX2 7 RX1, Cond.instantiable RX1 5, Cond.initialized RX1, Cond.fieldLink RX2 10 "HoldUnless" "text" "LHoldUnless$Text;", Cond.classLink RX2 16 RX0, Cond.instantiable RX0 5, Cond.initialized RX0, Cond.fieldLink RX2 19 "HoldUnless" "book" "LHoldUnless$RuleBook;", Cond.fieldLink RX2 23 "HoldUnless" "draft" "LHoldUnless$RuleBook;", Cond.arrayClass .int, Cond.fieldLink RX2 26 "HoldUnless" "imageOn" "[I"]
def wsL_law_r2 : List Cond := [Cond.fieldLink RX2 30 "HoldUnless" "imageAssumed" "[I", Cond.instanceMethod yX1_init, Cond.code yX1_init cX1_init 1 none, Cond.methodLink RX1 3 objectInit, Cond.arrayClass .byte, Cond.fieldLink RX1 9 "HoldUnless$Text" "bytes" "[B", Cond.instanceMethod yX0_init, Cond.code yX0_init cX0_init 1 none, Cond.methodLink RX0 3 objectInit, Cond.fieldLink RX0 9 "HoldUnless$RuleBook" "head" "[I", Cond.fieldLink RX0 15 "HoldUnless$RuleBook" "ifs" "[I", Cond.fieldLink RX0 18 "HoldUnless$RuleBook" "unless" "[I", Cond.methodLink RL 12 yX3_init, Cond.instanceMethod yX3_init, Cond.code yX3_init cX3_init 1 none, Cond.methodLink RX3 1 objectInit, Cond.fieldLink RX3 7 "HoldUnlessModel" "head" "[I", Cond.fieldLink RX3 13 "HoldUnlessModel" "ifs" "[I", Cond.fieldLink RX3 16 "HoldUnlessModel" "unless" "[I", Cond.fieldLink RX3 19 "HoldUnlessModel" "text" "[I", Cond.arrayClass .boolean, Cond.fieldLink RX3 22 "HoldUnlessModel" "isKept" "[Z", Cond.fieldLink RX3 26 "HoldUnlessModel" "keptOn" "[I", Cond.fieldLink RX3 29 "HoldUnlessModel" "keptAssumed" "[I"]
def wsL_law_r3 : List Cond := [Cond.fieldLink RX3 32 "HoldUnlessModel" "readHead" "[I", Cond.fieldLink RX3 35 "HoldUnlessModel" "readIfs" "[I", Cond.fieldLink RX3 38 "HoldUnlessModel" "readUnless" "[I", Cond.fieldLink RX3 41 "HoldUnlessModel" "round" "[I", Cond.fieldLink RX3 44 "HoldUnlessModel" "by" "[I", Cond.fieldLink RX3 47 "HoldUnlessModel" "now" "[I", Cond.fieldLink RX3 50 "HoldUnlessModel" "other" "[I", Cond.fieldLink RX3 53 "HoldUnlessModel" "even" "[I", Cond.fieldLink RX3 56 "HoldUnlessModel" "odd" "[I", Cond.methodLink RL 15 yX2_type, Cond.instanceMethod yX2_type, Cond.selects RX2 yX2_type yX2_type, Cond.code yX2_type cX2_type 5 (some .int), Cond.instanceMethod yX1_append, Cond.selects RX1 yX1_append yX1_append, Cond.code yX1_append cX1_append 2 none, Cond.fieldLink RX1 15 "HoldUnless$Text" "length" "I", Cond.methodLink RL 19 yX3_type, Cond.instanceMethod yX3_type, Cond.selects RX3 yX3_type yX3_type, Cond.code yX3_type cX3_type 5 (some .int), Cond.constantLong RX3 67 (8), Cond.fieldLink RX3 69 "HoldUnlessModel" "texted" "I", Cond.constantLong RX3 72 (255)]
def wsL_law_r4 : List Cond := [Cond.methodLink RX3 63 yX3_in, Cond.static yX3_in, Cond.code yX3_in cX3_in 6 (some .boolean), Cond.methodLink RL 20 yX2_clear, Cond.instanceMethod yX2_clear, Cond.selects RX2 yX2_clear yX2_clear, Cond.code yX2_clear cX2_clear 2 (some .int), Cond.methodLink RL 24 yX3_clear, Cond.instanceMethod yX3_clear, Cond.selects RX3 yX3_clear yX3_clear, Cond.code yX3_clear cX3_clear 2 (some .int), Cond.methodLink RL 25 yX2_rules, Cond.instanceMethod yX2_rules, Cond.selects RX2 yX2_rules yX2_rules, Cond.code yX2_rules cX2_rules 3 (some .int), Cond.fieldLink RX2 51 "HoldUnless" "on" "I", Cond.fieldLink RX2 54 "HoldUnless" "assumed" "I", Cond.fieldLink RX2 57 "HoldUnless" "imagesKept" "I", Cond.instanceMethod yX1_readInto, Cond.selects RX1 yX1_readInto yX1_readInto, Cond.code yX1_readInto cX1_readInto 4 (some .int), Cond.fieldLink RX1 24 "HoldUnless$Text" "place" "I", Cond.fieldLink RX1 30 "HoldUnless$Text" "token" "I", Cond.instanceMethod yX0_forgetAll]
def wsL_law_r5 : List Cond := [Cond.selects RX0 yX0_forgetAll yX0_forgetAll, Cond.code yX0_forgetAll cX0_forgetAll 1 none, Cond.fieldLink RX0 21 "HoldUnless$RuleBook" "size" "I", Cond.fieldLink RX0 25 "HoldUnless$RuleBook" "may" "I", Cond.methodLink RX1 27 yX1_advance, Cond.instanceMethod yX1_advance, Cond.selects RX1 yX1_advance yX1_advance, Cond.code yX1_advance cX1_advance 1 none, Cond.fieldLink RX1 63 "HoldUnless$Text" "tokenPlace" "I", Cond.methodLink RX1 59 yX1_byteAt, Cond.instanceMethod yX1_byteAt, Cond.selects RX1 yX1_byteAt yX1_byteAt, Cond.code yX1_byteAt cX1_byteAt 2 (some .int), Cond.methodLink RX1 66 yX1_isLetter, Cond.static yX1_isLetter, Cond.code yX1_isLetter cX1_isLetter 1 (some .boolean), Cond.methodLink RX1 69 yX1_readWord, Cond.instanceMethod yX1_readWord, Cond.selects RX1 yX1_readWord yX1_readWord, Cond.code yX1_readWord cX1_readWord 3 none, Cond.methodLink RX1 72 yX1_tokenOf, Cond.static yX1_tokenOf, Cond.code yX1_tokenOf cX1_tokenOf 2 (some .int), Cond.constantLong RX1 76 (97)]
def wsL_law_r6 : List Cond := [Cond.constantLong RX1 78 (105), Cond.constantLong RX1 80 (26982), Cond.constantLong RX1 82 (129117125440371), Cond.constantLong RX1 84 (474148660594), Cond.constantLong RX1 86 (7168377), Cond.methodLink RX1 33 yX1_readMay, Cond.instanceMethod yX1_readMay, Cond.selects RX1 yX1_readMay yX1_readMay, Cond.code yX1_readMay cX1_readMay 3 (some .boolean), Cond.methodLink RX1 40 yX1_readSentences, Cond.instanceMethod yX1_readSentences, Cond.selects RX1 yX1_readSentences yX1_readSentences, Cond.code yX1_readSentences cX1_readSentences 3 (some .int), Cond.static yX2_isSentence, Cond.code yX2_isSentence cX2_isSentence 1 (some .boolean), Cond.methodLink RX1 37 yX1_readRule, Cond.instanceMethod yX1_readRule, Cond.selects RX1 yX1_readRule yX1_readRule, Cond.code yX1_readRule cX1_readRule 7 (some .boolean), Cond.instanceMethod yX0_hasRoom, Cond.selects RX0 yX0_hasRoom yX0_hasRoom, Cond.code yX0_hasRoom cX0_hasRoom 1 (some .boolean), Cond.instanceMethod yX0_add, Cond.selects RX0 yX0_add yX0_add]
def wsL_law_r7 : List Cond := [Cond.code yX0_add cX0_add 4 none, Cond.methodLink RX0 28 yX0_hasRoom, Cond.methodLink RL 28 yX3_rules, Cond.instanceMethod yX3_rules, Cond.selects RX3 yX3_rules yX3_rules, Cond.code yX3_rules cX3_rules 5 (some .int), Cond.fieldLink RX3 74 "HoldUnlessModel" "at" "I", Cond.fieldLink RX3 96 "HoldUnlessModel" "readRules" "I", Cond.fieldLink RX3 99 "HoldUnlessModel" "readMay" "I", Cond.fieldLink RX3 77 "HoldUnlessModel" "from" "I", Cond.fieldLink RX3 59 "HoldUnlessModel" "rules" "I", Cond.fieldLink RX3 114 "HoldUnlessModel" "on" "I", Cond.fieldLink RX3 117 "HoldUnlessModel" "may" "I", Cond.fieldLink RX3 120 "HoldUnlessModel" "assumed" "I", Cond.methodLink RX3 102 yX3_next, Cond.instanceMethod yX3_next, Cond.selects RX3 yX3_next yX3_next, Cond.code yX3_next cX3_next 3 (some .int), Cond.constantLong RX3 84 (32), Cond.constantLong RX3 86 (96), Cond.constantLong RX3 88 (294), Cond.constantLong RX3 90 (719722099), Cond.constantLong RX3 92 (14866610), Cond.constantLong RX3 94 (13369)]
def wsL_law_r8 : List Cond := [Cond.methodLink RX3 80 yX3_isLetter, Cond.static yX3_isLetter, Cond.code yX3_isLetter cX3_isLetter 1 (some .boolean), Cond.methodLink RX3 106 yX3_goesTo, Cond.instanceMethod yX3_goesTo, Cond.selects RX3 yX3_goesTo yX3_goesTo, Cond.code yX3_goesTo cX3_goesTo 4 (some .int), Cond.methodLink RX3 110 yX3_take, Cond.instanceMethod yX3_take, Cond.selects RX3 yX3_take yX3_take, Cond.code yX3_take cX3_take 3 none, Cond.methodLink RL 29 yX2_rule, Cond.instanceMethod yX2_rule, Cond.selects RX2 yX2_rule yX2_rule, Cond.code yX2_rule cX2_rule 3 (some .int), Cond.methodLink RX2 60 yX2_isRule, Cond.instanceMethod yX2_isRule, Cond.selects RX2 yX2_isRule yX2_isRule, Cond.code yX2_isRule cX2_isRule 2 (some .boolean), Cond.methodLink RX2 73 yX2_bitOf, Cond.static yX2_bitOf, Cond.code yX2_bitOf cX2_bitOf 2 (some .int), Cond.methodLink RL 33 yX3_rule, Cond.instanceMethod yX3_rule]
def wsL_law_r9 : List Cond := [Cond.selects RX3 yX3_rule yX3_rule, Cond.code yX3_rule cX3_rule 3 (some .int), Cond.constantLong RX3 126 (3), Cond.methodLink RX3 123 yX3_isRule, Cond.instanceMethod yX3_isRule, Cond.selects RX3 yX3_isRule yX3_isRule, Cond.code yX3_isRule cX3_isRule 2 (some .boolean), Cond.methodLink RL 34 yX2_turn, Cond.instanceMethod yX2_turn, Cond.selects RX2 yX2_turn yX2_turn, Cond.code yX2_turn cX2_turn 4 (some .int), Cond.methodLink RX2 77 yX2_isBit, Cond.static yX2_isBit, Cond.code yX2_isBit cX2_isBit 1 (some .boolean), Cond.methodLink RX2 80 yX2_withBit, Cond.static yX2_withBit, Cond.code yX2_withBit cX2_withBit 3 (some .int), Cond.methodLink RL 37 yX3_turn, Cond.instanceMethod yX3_turn, Cond.selects RX3 yX3_turn yX3_turn, Cond.code yX3_turn cX3_turn 4 (some .int), Cond.methodLink RL 38 yX2_assume, Cond.instanceMethod yX2_assume, Cond.selects RX2 yX2_assume yX2_assume]
def wsL_law_r10 : List Cond := [Cond.code yX2_assume cX2_assume 4 (some .int), Cond.methodLink RX2 84 yX2_isSentence, Cond.methodLink RL 41 yX3_assume, Cond.instanceMethod yX3_assume, Cond.selects RX3 yX3_assume yX3_assume, Cond.code yX3_assume cX3_assume 4 (some .int), Cond.constantLong RX3 128 (7), Cond.methodLink RL 42 yX2_sets, Cond.instanceMethod yX2_sets, Cond.selects RX2 yX2_sets yX2_sets, Cond.code yX2_sets cX2_sets 3 (some .int), Cond.instanceMethod yX0_upholds, Cond.selects RX0 yX0_upholds yX0_upholds, Cond.code yX0_upholds cX0_upholds 4 (some .boolean), Cond.methodLink RX0 44 yX0_brokenBy, Cond.instanceMethod yX0_brokenBy, Cond.selects RX0 yX0_brokenBy yX0_brokenBy, Cond.code yX0_brokenBy cX0_brokenBy 5 (some .int), Cond.methodLink RX0 36 yX0_bodyHolds, Cond.instanceMethod yX0_bodyHolds, Cond.selects RX0 yX0_bodyHolds yX0_bodyHolds, Cond.code yX0_bodyHolds cX0_bodyHolds 4 (some .boolean), Cond.methodLink RX0 47 yX0_comesOf, Cond.instanceMethod yX0_comesOf]
def wsL_law_r11 : List Cond := [Cond.selects RX0 yX0_comesOf yX0_comesOf, Cond.code yX0_comesOf cX0_comesOf 7 (some .int), Cond.methodLink RX0 40 yX0_nextRound, Cond.instanceMethod yX0_nextRound, Cond.selects RX0 yX0_nextRound yX0_nextRound, Cond.code yX0_nextRound cX0_nextRound 6 (some .int), Cond.methodLink RL 45 yX3_sets, Cond.instanceMethod yX3_sets, Cond.selects RX3 yX3_sets yX3_sets, Cond.code yX3_sets cX3_sets 1 (some .int), Cond.methodLink RX3 145 yX3_findAll, Cond.instanceMethod yX3_findAll, Cond.selects RX3 yX3_findAll yX3_findAll, Cond.code yX3_findAll cX3_findAll 6 (some .int), Cond.methodLink RX3 141 yX3_doesStand, Cond.instanceMethod yX3_doesStand, Cond.selects RX3 yX3_doesStand yX3_doesStand, Cond.code yX3_doesStand cX3_doesStand 4 (some .boolean), Cond.methodLink RX3 134 yX3_isBanned, Cond.instanceMethod yX3_isBanned, Cond.selects RX3 yX3_isBanned yX3_isBanned, Cond.code yX3_isBanned cX3_isBanned 5 (some .boolean), Cond.methodLink RX3 130 yX3_has, Cond.static yX3_has]
def wsL_law_r12 : List Cond := [Cond.code yX3_has cX3_has 2 (some .boolean), Cond.methodLink RX3 137 yX3_grows, Cond.instanceMethod yX3_grows, Cond.selects RX3 yX3_grows yX3_grows, Cond.code yX3_grows cX3_grows 9 (some .int), Cond.methodLink RL 46 yX2_set, Cond.instanceMethod yX2_set, Cond.selects RX2 yX2_set yX2_set, Cond.code yX2_set cX2_set 2 (some .int), Cond.methodLink RX2 91 yX2_standingSet, Cond.instanceMethod yX2_standingSet, Cond.selects RX2 yX2_standingSet yX2_standingSet, Cond.code yX2_standingSet cX2_standingSet 4 (some .int), Cond.methodLink RL 50 yX3_set, Cond.instanceMethod yX3_set, Cond.selects RX3 yX3_set yX3_set, Cond.code yX3_set cX3_set 2 (some .int), Cond.methodLink RX3 149 yX3_ofAll, Cond.instanceMethod yX3_ofAll, Cond.selects RX3 yX3_ofAll yX3_ofAll, Cond.code yX3_ofAll cX3_ofAll 4 (some .int), Cond.methodLink RL 51 yX2_stands, Cond.instanceMethod yX2_stands, Cond.selects RX2 yX2_stands yX2_stands]
def wsL_law_r13 : List Cond := [Cond.code yX2_stands cX2_stands 2 (some .int), Cond.methodLink RX2 95 yX2_isSet, Cond.static yX2_isSet, Cond.code yX2_isSet cX2_isSet 1 (some .boolean), Cond.methodLink RL 54 yX3_stands, Cond.instanceMethod yX3_stands, Cond.selects RX3 yX3_stands yX3_stands, Cond.code yX3_stands cX3_stands 2 (some .int), Cond.methodLink RL 55 yX2_holds, Cond.instanceMethod yX2_holds, Cond.selects RX2 yX2_holds yX2_holds, Cond.code yX2_holds cX2_holds 5 (some .int), Cond.methodLink RL 58 yX3_holds, Cond.instanceMethod yX3_holds, Cond.selects RX3 yX3_holds yX3_holds, Cond.code yX3_holds cX3_holds 6 (some .int), Cond.methodLink RL 59 yX2_known, Cond.instanceMethod yX2_known, Cond.selects RX2 yX2_known yX2_known, Cond.code yX2_known cX2_known 7 (some .int), Cond.methodLink RL 62 yX3_known, Cond.instanceMethod yX3_known, Cond.selects RX3 yX3_known yX3_known, Cond.code yX3_known cX3_known 5 (some .int)]
def wsL_law_r14 : List Cond := [Cond.methodLink RL 63 yX2_why, Cond.instanceMethod yX2_why, Cond.selects RX2 yX2_why yX2_why, Cond.code yX2_why cX2_why 8 (some .int), Cond.instanceMethod yX0_firstRuleBringing, Cond.selects RX0 yX0_firstRuleBringing yX0_firstRuleBringing, Cond.code yX0_firstRuleBringing cX0_firstRuleBringing 6 (some .int), Cond.methodLink RL 67 yX3_why, Cond.instanceMethod yX3_why, Cond.selects RX3 yX3_why yX3_why, Cond.code yX3_why cX3_why 5 (some .int), Cond.methodLink RX3 153 yX3_set, Cond.methodLink RL 68 yX2_hangs, Cond.instanceMethod yX2_hangs, Cond.selects RX2 yX2_hangs yX2_hangs, Cond.code yX2_hangs cX2_hangs 5 (some .int), Cond.instanceMethod yX0_hangsByIf, Cond.selects RX0 yX0_hangsByIf yX0_hangsByIf, Cond.code yX0_hangsByIf cX0_hangsByIf 5 (some .boolean), Cond.methodLink RX0 54 yX0_ifsUnder, Cond.instanceMethod yX0_ifsUnder, Cond.selects RX0 yX0_ifsUnder yX0_ifsUnder, Cond.code yX0_ifsUnder cX0_ifsUnder 3 (some .int), Cond.methodLink RX0 50 yX0_partUnder]
def wsL_law_r15 : List Cond := [Cond.instanceMethod yX0_partUnder, Cond.selects RX0 yX0_partUnder yX0_partUnder, Cond.code yX0_partUnder cX0_partUnder 6 (some .int), Cond.instanceMethod yX0_isTangled, Cond.selects RX0 yX0_isTangled yX0_isTangled, Cond.code yX0_isTangled cX0_isTangled 7 (some .boolean), Cond.methodLink RX0 57 yX0_unlessUnder, Cond.instanceMethod yX0_unlessUnder, Cond.selects RX0 yX0_unlessUnder yX0_unlessUnder, Cond.code yX0_unlessUnder cX0_unlessUnder 3 (some .int), Cond.methodLink RL 71 yX3_hangs, Cond.instanceMethod yX3_hangs, Cond.selects RX3 yX3_hangs yX3_hangs, Cond.code yX3_hangs cX3_hangs 4 (some .int), Cond.methodLink RX3 156 yX3_findHangs, Cond.instanceMethod yX3_findHangs, Cond.selects RX3 yX3_findHangs yX3_findHangs, Cond.code yX3_findHangs cX3_findHangs 7 none, Cond.methodLink RL 72 yX2_explains, Cond.instanceMethod yX2_explains, Cond.selects RX2 yX2_explains yX2_explains, Cond.code yX2_explains cX2_explains 6 (some .int), Cond.methodLink RX2 118 yJ6_bitCount_0f7a4, Cond.static yJ6_bitCount_0f7a4]
def wsL_law_r16 : List Cond := [Cond.initialized RJ6, Cond.code yJ6_bitCount_0f7a4 cJ6_bitCount_0f7a4 1 (some .int), Cond.constant RJ6 265 (1431655765), Cond.constant RJ6 266 (858993459), Cond.constant RJ6 267 (252645135), Cond.methodLink RX2 123 yX2_standsWith, Cond.instanceMethod yX2_standsWith, Cond.selects RX2 yX2_standsWith yX2_standsWith, Cond.code yX2_standsWith cX2_standsWith 5 (some .boolean), Cond.methodLink RL 75 yX3_explains, Cond.instanceMethod yX3_explains, Cond.selects RX3 yX3_explains yX3_explains, Cond.code yX3_explains cX3_explains 6 (some .int), Cond.methodLink RX3 160 yX3_ones, Cond.static yX3_ones, Cond.code yX3_ones cX3_ones 3 (some .int), Cond.methodLink RX3 163 yX3_isInSome, Cond.instanceMethod yX3_isInSome, Cond.selects RX3 yX3_isInSome yX3_isInSome, Cond.code yX3_isInSome cX3_isInSome 4 (some .boolean), Cond.methodLink RL 76 yX2_givesUp, Cond.instanceMethod yX2_givesUp, Cond.selects RX2 yX2_givesUp yX2_givesUp, Cond.code yX2_givesUp cX2_givesUp 5 (some .int)]
def wsL_law_r17 : List Cond := [Cond.methodLink RX2 129 yX2_isBetter, Cond.static yX2_isBetter, Cond.code yX2_isBetter cX2_isBetter 3 (some .boolean), Cond.methodLink RL 79 yX3_givesUp, Cond.instanceMethod yX3_givesUp, Cond.selects RX3 yX3_givesUp yX3_givesUp, Cond.code yX3_givesUp cX3_givesUp 4 (some .int), Cond.methodLink RX3 166 yX3_isAny, Cond.instanceMethod yX3_isAny, Cond.selects RX3 yX3_isAny yX3_isAny, Cond.code yX3_isAny cX3_isAny 3 (some .boolean), Cond.methodLink RL 80 yX2_idle, Cond.instanceMethod yX2_idle, Cond.selects RX2 yX2_idle yX2_idle, Cond.code yX2_idle cX2_idle 2 (some .int), Cond.methodLink RX2 132 yX2_sameSetsWith, Cond.instanceMethod yX2_sameSetsWith, Cond.selects RX2 yX2_sameSetsWith yX2_sameSetsWith, Cond.code yX2_sameSetsWith cX2_sameSetsWith 4 (some .boolean), Cond.methodLink RL 83 yX3_idle, Cond.instanceMethod yX3_idle, Cond.selects RX3 yX3_idle yX3_idle, Cond.code yX3_idle cX3_idle 2 (some .int), Cond.methodLink RX3 169 yX3_areSame]
def wsL_law_r18 : List Cond := [Cond.instanceMethod yX3_areSame, Cond.selects RX3 yX3_areSame yX3_areSame, Cond.code yX3_areSame cX3_areSame 5 (some .boolean), Cond.methodLink RL 84 yX2_alike, Cond.instanceMethod yX2_alike, Cond.selects RX2 yX2_alike yX2_alike, Cond.code yX2_alike cX2_alike 2 (some .int), Cond.methodLink RX2 135 yX2_isImage, Cond.static yX2_isImage, Cond.code yX2_isImage cX2_isImage 1 (some .boolean), Cond.methodLink RL 87 yX3_alike, Cond.instanceMethod yX3_alike, Cond.selects RX3 yX3_alike yX3_alike, Cond.code yX3_alike cX3_alike 2 (some .int), Cond.methodLink RL 88 yX2_mark, Cond.instanceMethod yX2_mark, Cond.selects RX2 yX2_mark yX2_mark, Cond.code yX2_mark cX2_mark 3 (some .int), Cond.constant RX2 138 (-1000000), Cond.methodLink RX2 139 yX2_markOfRule, Cond.instanceMethod yX2_markOfRule, Cond.selects RX2 yX2_markOfRule yX2_markOfRule, Cond.code yX2_markOfRule cX2_markOfRule 2 (some .int), Cond.fieldLink RX2 157 "HoldUnless" "traceSum" "J"]
def wsL_law_r19 : List Cond := [Cond.methodLink RX2 142 yX2_markOfLaw, Cond.instanceMethod yX2_markOfLaw, Cond.selects RX2 yX2_markOfLaw yX2_markOfLaw, Cond.code yX2_markOfLaw cX2_markOfLaw 2 (some .int), Cond.constantLong RX2 161 (10), Cond.methodLink RX2 145 yX2_markOfHabit, Cond.instanceMethod yX2_markOfHabit, Cond.selects RX2 yX2_markOfHabit yX2_markOfHabit, Cond.code yX2_markOfHabit cX2_markOfHabit 2 (some .int), Cond.constantLong RX2 163 (100), Cond.methodLink RX2 148 yX2_markOfDecree, Cond.instanceMethod yX2_markOfDecree, Cond.selects RX2 yX2_markOfDecree yX2_markOfDecree, Cond.code yX2_markOfDecree cX2_markOfDecree 2 (some .int), Cond.constantLong RX2 165 (1000), Cond.methodLink RX2 151 yX2_markOfCustom, Cond.instanceMethod yX2_markOfCustom, Cond.selects RX2 yX2_markOfCustom yX2_markOfCustom, Cond.code yX2_markOfCustom cX2_markOfCustom 2 (some .int), Cond.constantLong RX2 167 (10000), Cond.methodLink RX2 154 yX2_markOfOath, Cond.instanceMethod yX2_markOfOath, Cond.selects RX2 yX2_markOfOath yX2_markOfOath, Cond.code yX2_markOfOath cX2_markOfOath 2 (some .int)]
def wsL_law_r20 : List Cond := [Cond.constantLong RX2 169 (100000), Cond.methodLink RL 91 yX3_mark, Cond.instanceMethod yX3_mark, Cond.selects RX3 yX3_mark yX3_mark, Cond.code yX3_mark cX3_mark 4 (some .int), Cond.constantLong RX3 172 (5), Cond.constant RX3 174 (-1000000), Cond.fieldLink RX3 175 "HoldUnlessModel" "trace" "J", Cond.constantLong RX3 179 (10), Cond.constantLong RX3 181 (100), Cond.constantLong RX3 183 (1010), Cond.constantLong RX3 185 (10100), Cond.constantLong RX3 187 (100000), Cond.methodLink RL 92 yX2_keep, Cond.instanceMethod yX2_keep, Cond.selects RX2 yX2_keep yX2_keep, Cond.code yX2_keep cX2_keep 2 (some .int), Cond.methodLink RL 95 yX3_keep, Cond.instanceMethod yX3_keep, Cond.selects RX3 yX3_keep yX3_keep, Cond.code yX3_keep cX3_keep 2 (some .int), Cond.methodLink RL 96 yX2_back, Cond.instanceMethod yX2_back, Cond.selects RX2 yX2_back yX2_back]
def wsL_law_r21 : List Cond := [Cond.code yX2_back cX2_back 2 (some .int), Cond.methodLink RL 99 yX3_back, Cond.instanceMethod yX3_back, Cond.selects RX3 yX3_back yX3_back, Cond.code yX3_back cX3_back 2 (some .int), Cond.methodLink RL 100 yX2_count, Cond.instanceMethod yX2_count, Cond.selects RX2 yX2_count yX2_count, Cond.code yX2_count cX2_count 2 (some .int), Cond.methodLink RL 103 yX3_count, Cond.instanceMethod yX3_count, Cond.selects RX3 yX3_count yX3_count, Cond.code yX3_count cX3_count 2 (some .int), Cond.methodLink RL 104 yX2_trace, Cond.instanceMethod yX2_trace, Cond.selects RX2 yX2_trace yX2_trace, Cond.code yX2_trace cX2_trace 1 (some .long), Cond.methodLink RL 108 yX3_trace, Cond.instanceMethod yX3_trace, Cond.selects RX3 yX3_trace yX3_trace, Cond.code yX3_trace cX3_trace 1 (some .long)]
def wsL_law : List Cond := (wsL_law_r1 ++ (wsL_law_r2 ++ (wsL_law_r3 ++ (wsL_law_r4 ++ (wsL_law_r5 ++ (wsL_law_r6 ++ (wsL_law_r7 ++ (wsL_law_r8 ++ (wsL_law_r9 ++ (wsL_law_r10 ++ (wsL_law_r11 ++ (wsL_law_r12 ++ (wsL_law_r13 ++ (wsL_law_r14 ++ (wsL_law_r15 ++ (wsL_law_r16 ++ (wsL_law_r17 ++ (wsL_law_r18 ++ (wsL_law_r19 ++ (wsL_law_r20 ++ wsL_law_r21)))))))))))))))))))) ++ wsX20 ++ wsX30 ++ wsX10 ++ wsX00 ++ ([] : List Cond)
abbrev vwCl : List vw_C := [(RX0, TX0, 5), (RX1, TX1, 5), (RX2, TX2, 9), (RX3, TX3, 26)]
end
section
/-! ===== links to private members of nest mates ===== -/
def nsL : List Cond := [.methodLinkNest RX2 9 yX1_init RX2, .methodLinkNest RX2 18 yX0_init RX2, .methodLinkNest RX2 37 yX1_append RX2, .methodLinkNest RX2 41 yX1_readInto RX2, .methodLinkNest RX1 19 yX0_forgetAll RX2, .methodLinkNest RX1 47 yX2_isSentence RX2, .methodLinkNest RX1 51 yX0_hasRoom RX2, .methodLinkNest RX1 55 yX0_add RX2, .methodLinkNest RX2 87 yX0_upholds RX2, .methodLinkNest RX0 32 yX2_bitOf RX2, .methodLinkNest RX2 98 yX0_comesOf RX2, .methodLinkNest RX2 104 yX0_firstRuleBringing RX2, .methodLinkNest RX2 108 yX0_nextRound RX2, .methodLinkNest RX2 111 yX0_hangsByIf RX2, .methodLinkNest RX2 115 yX0_isTangled RX2, .methodLinkNest RX2 126 yX0_brokenBy RX2, .fieldLinkNest RX2 33 "HoldUnless$Text" "length" "I" RX2, .fieldLinkNest RX2 45 "HoldUnless$Text" "tokenPlace" "I" RX2, .fieldLinkNest RX2 48 "HoldUnless$RuleBook" "size" "I" RX2, .fieldLinkNest RX1 44 "HoldUnless$RuleBook" "may" "I" RX2, .fieldLinkNest RX2 101 "HoldUnless$RuleBook" "may" "I" RX2, .fieldLinkNest RX2 64 "HoldUnless$RuleBook" "head" "[I" RX2, .fieldLinkNest RX2 67 "HoldUnless$RuleBook" "ifs" "[I" RX2, .fieldLinkNest RX2 70 "HoldUnless$RuleBook" "unless" "[I" RX2]
def isNest : Cond → Bool
  | .methodLinkNest _ _ _ _ => true
  | .fieldLinkNest _ _ _ _ _ _ => true
  | _ => false
theorem nsL_nest : ∀ w ∈ nsL, isNest w = true := by decide +kernel
theorem nsL_tab : ∀ w ∈ nsL, w.onTables = true := by decide +kernel
theorem nsL_in : ∀ w ∈ nsL, w ∈ tables_1 := by decide +kernel
def nests (U : State) : Prop := ∀ w ∈ nsL, va_Nw w U
theorem isNest_warm {s U : State} (hW : s.WarmedH U.vm) {w : Cond} (h1 : isNest w = true) (h2 : va_Nw w s) : va_Nw w U := by
  unfold isNest at h1
  split at h1
  · exact va_Nw.warmM hW h2
  · exact va_Nw.warmF hW h2
  · cases h1
theorem nests.warm {s U : State} (hW : s.WarmedH U.vm) (h : nests s) : nests U := fun w hw => isNest_warm hW (nsL_nest w hw) (h w hw)
theorem nests.same {u U : State} (h : u.vm = U.vm) (hZ : nests u) : nests U := fun w hw => va_Nw.same (nsL_tab w hw) h (hZ w hw)
theorem nests.use {A : Array Value} {U : State} (h : nests U) (i : Nat) {w : Cond} (hw : nsL[i]? = some w) : w.before A U = true := va_Nw.use (nsL_tab w (List.mem_of_getElem? hw)) (h w (List.mem_of_getElem? hw))
theorem nests.nw {U : State} (h : nests U) (i : Nat) {w : Cond} (hw : nsL[i]? = some w) : va_Nw w U := h w (List.mem_of_getElem? hw)
/-! ===== the start of a contract ===== -/
def cPre (D : va_G) (tys : List (ClassId × FieldType)) (ws : va_W) (sz : Nat) (U : State) : Prop := U.heap.size = sz ∧ va_P D vwCl ws U.heap ∧ va_K D vwCl tys U ∧ va_D (fun _ => True) ws ∧ nests U
theorem cPre.blind {D : va_G} {tys : List (ClassId × FieldType)} {ws : va_W} {sz : Nat} {av : List Value} : FrameBlind (va_Pc av (cPre D tys ws sz)) := fun a U g mk q => by
  obtain ⟨q0, q1, qP, qK, qD, qN⟩ := q
  exact ⟨q0, q1, qP, va_K.moved (u := U) (U := U.calling g mk a) (Vm.Alike.refl U.vm) qK, qD, nests.same (u := U) (U := U.calling g mk a) rfl qN⟩
theorem cPre.mk {D : va_G} {tys : List (ClassId × FieldType)} {ws : va_W} {s : State} {H : Heap} {A : Nat → Prop} {av : List Value} (hP : va_P D vwCl ws H) (hK : va_K D vwCl tys s) (hD : va_D A ws) (hN : nests s) : ∀ U : State, U.heap = H → s.WarmedH U.vm → va_Pc av (cPre D tys ws H.size) av.toArray U := fun U hU hW => ⟨rfl, by rw [hU], by rw [hU]; exact hP, va_K.moved hW.alike hK, hD.weaken (fun _ _ _ _ => trivial), hN.warm hW⟩
theorem vP0 {D : va_G} {H : Heap} : va_P D vwCl ([] : va_W) H := fun k q h => by simp at h
theorem vD0 : va_D (fun _ => True) ([] : va_W) := ⟨fun i j p q h => by simp at h, fun k q h => by simp at h⟩
/-! ===== loops as functions ===== -/
def itr {α : Type} (f : Nat → α → α) (s : α) : Nat → α
  | 0 => s
  | k + 1 => f k (itr f s k)
theorem itr_zero {α : Type} (f : Nat → α → α) (s : α) : itr f s 0 = s := rfl
theorem itr_succ {α : Type} (f : Nat → α → α) (s : α) (k : Nat) : itr f s (k + 1) = f k (itr f s k) := rfl
theorem itr_step {α : Type} {f : Nat → α → α} {s : α} {k : Nat} {a b : α} (h : a = itr f s k) (hr : f k a = b) : b = itr f s (k + 1) := by
  rw [itr_succ, ← h]
  exact hr.symm
def onE {α β : Type} (r : β ⊕ α) (g : α → β) : β := match r with
  | .inl b => b
  | .inr a => g a
theorem onE_l {α β : Type} (b : β) (g : α → β) : onE (.inl b) g = b := rfl
theorem onE_r {α β : Type} (a : α) (g : α → β) : onE (.inr a) g = g a := rfl
def bnE {α β : Type} (r : β ⊕ α) (g : α → β ⊕ α) : β ⊕ α := match r with
  | .inl b => .inl b
  | .inr a => g a
def itE {α β : Type} (f : Nat → α → β ⊕ α) (s : α) : Nat → β ⊕ α
  | 0 => .inr s
  | k + 1 => bnE (itE f s k) (f k)
theorem itE_zero {α β : Type} (f : Nat → α → β ⊕ α) (s : α) : itE f s 0 = .inr s := rfl
theorem itE_succ {α β : Type} {f : Nat → α → β ⊕ α} {s : α} {k : Nat} {a : α} {r : β ⊕ α} (h : itE f s k = .inr a) (hr : f k a = r) : itE f s (k + 1) = r := by
  show bnE (itE f s k) (f k) = r
  rw [h]
  exact hr
theorem itE_stop {α β : Type} {f : Nat → α → β ⊕ α} {s : α} {k : Nat} {b : β} (h : itE f s k = .inl b) : ∀ n : Nat, k ≤ n → itE f s n = .inl b := by
  intro n
  induction n with
  | zero => intro hk; rw [Nat.le_zero.mp hk] at h; exact h
  | succ n ih =>
    intro hk
    rcases Nat.lt_or_ge n k with q | q
    · rw [show n + 1 = k by omega]; exact h
    · show bnE (itE f s n) (f n) = _
      rw [ih q]
      rfl
/-! ===== numbers ===== -/
theorem inc_nI (j : Nat) : nI j + Int32.ofInt 1 = nI (j + 1) := nI_1 j
theorem vp_of {i M : Int32} {n : Nat} (hM : M.toInt = n) (h0 : ¬ i < 0) (h1 : ¬ M ≤ i) : vp_in i n := by
  rw [vp_in_iff]
  rw [Int32.lt_iff_toInt_lt] at h0
  rw [Int32.le_iff_toInt_le, hM] at h1
  have : (0 : Int32).toInt = 0 := rfl
  omega
/-! ===== rows ===== -/
section RR
variable {p : Program} {l : Launch} {e : Env} {R : Room} {s : State} {m : MethodId} {args : Array Value} {below : List Frame} {meth : Method} {c : Code} {H : Heap} {locs : List Loc} {cells slots : Nat} {Q : State → Prop}
variable {pc : Nat} {ls : Array Slot} {rest st0 : List Value} {a : Array Value} {A0 A1 : Nat → Prop} {H0 : Heap} {D : va_G}
theorem ro_keep {cl : List vw_C} {ws : va_W} {H H1 : Heap} (hk : ∀ q : Nat, q < H.size → ¬ H.size ≤ q → H1[q]? = H[q]?) (hP : va_P D cl ws H) : va_P D cl ws H1 := hP.kept (fun k q hkq => hk q.1 (hP k q hkq).lt (Nat.not_le.mpr (hP k q hkq).lt))
/-- a call that reads alone, and answers v -/
theorem ro_i {v : Int32} (hr : va_Run p l e R s m args below meth c H locs cells slots 0 0 (F0 m pc ls st0) rest (va_Qi (fun r (_ : Unit) => r = v) (fun _ _ => True) (fun q => H.size ≤ q) a) (fun q => H.size ≤ q)) (hS : va_S A0 H0 H locs) (hA : ∀ q, H0.size ≤ q → A0 q)
    (kk : ∀ (H1 : Heap) (locs1 : List Loc), (∀ ws : va_W, va_P D vwCl ws H → va_P D vwCl ws H1) → va_S A0 H0 H1 locs1 → W p l e R s m args below meth c H1 locs1 cells slots Q (F0 m (pc + 3) ls (.int v :: rest))) : W p l e R s m args below meth c H locs cells slots Q (F0 m pc ls st0) :=
  va_calli hr hS (fun q h1 h2 => absurd h1 (Nat.not_lt.mpr h2)) (fun q h => hA q (Nat.le_trans hS.1 h)) (fun r u t H1 locs1 ht hvm hp hb hz hk hS1 => by
    subst hp
    exact kk H1 locs1 (fun ws hP => ro_keep hk hP) hS1)
theorem ro_iret {v w : Int32} {cc : ByteArray} (hexec : p.tables.exec = Jvm.exec) (hb : c.code = cc) (hr : meth.sig.returnType = some .int) (hS : va_S (fun q : Nat => s.heap.size ≤ q) s.heap H locs) (hlocks : meth.locks = false) (hv : v = w) (hdg : decode cc pc = .ok (.ireturn, 1)) :
    W p l e R s m args below meth c H locs cells slots (MQ below (va_Qi (fun r (_ : Unit) => r = w) (fun _ _ => True) (fun q => s.heap.size ≤ q)) args s cells slots (fun q => s.heap.size ≤ q)) (F0 m pc ls [.int v]) :=
  W.iret (v := v) hexec hb hr (fun t ht hW => ⟨⟨v, (), rfl, hv, trivial⟩, hS.F ht⟩) hS.2.2 hdg hlocks
theorem ro_zret {v w : Int32} {cc : ByteArray} (hexec : p.tables.exec = Jvm.exec) (hb : c.code = cc) (hr : meth.sig.returnType = some .boolean) (hS : va_S (fun q : Nat => s.heap.size ≤ q) s.heap H locs) (hlocks : meth.locks = false) (hv : v = w) (hn : narrow .boolean (.int v) = .int v) (hdg : decode cc pc = .ok (.ireturn, 1)) :
    W p l e R s m args below meth c H locs cells slots (MQ below (va_Qi (fun r (_ : Unit) => r = w) (fun _ _ => True) (fun q => s.heap.size ≤ q)) args s cells slots (fun q => s.heap.size ≤ q)) (F0 m pc ls [.int v]) :=
  W.zret (v := v) hexec hb hr hn (fun t ht hW => ⟨⟨v, (), rfl, hv, trivial⟩, hS.F ht⟩) hS.2.2 hdg hlocks
theorem ro_lret {v w : Int64} {cc : ByteArray} (hexec : p.tables.exec = Jvm.exec) (hb : c.code = cc) (hr : meth.sig.returnType = some .long) (hS : va_S (fun q : Nat => s.heap.size ≤ q) s.heap H locs) (hlocks : meth.locks = false) (hv : v = w) (hdg : decode cc pc = .ok (.lreturn, 1)) :
    W p l e R s m args below meth c H locs cells slots (MQ below (va_Ql (fun r (_ : Unit) => r = w) (fun _ _ => True) (fun q => s.heap.size ≤ q)) args s cells slots (fun q => s.heap.size ≤ q)) (F0 m pc ls [.long v]) :=
  W.lret (v := v) hexec hb hr (fun t ht hW => ⟨⟨v, (), rfl, hv, trivial⟩, hS.F ht⟩) hS.2.2 hdg hlocks
/-- what a writing contract says of the world behind it -/
def rwB (D : va_G) {S : Type} (Bw : S → va_W) (A : Nat → Prop) : S → State → Prop := fun u t => va_P D vwCl (Bw u) t.heap ∧ va_D A (Bw u)
theorem rw_i {S : Type} {post : Int32 → S → Prop} {Bw : S → va_W} {wc : va_W} (hr : va_Run p l e R s m args below meth c H locs cells slots 0 0 (F0 m pc ls st0) rest (va_Qi post (rwB D Bw (va_A wc H.size)) (va_A wc H.size) a) (va_A wc H.size)) (hS : va_S A0 H0 H locs) (hF : ∀ q, va_A wc H.size q → A0 q)
    (kk : ∀ (r : Int32) (u : S) (H1 : Heap) (locs1 : List Loc), post r u → va_P D vwCl (Bw u) H1 → va_D (va_A wc H.size) (Bw u) → (∀ q : Nat, q < H.size → ¬ va_A wc H.size q → H1[q]? = H[q]?) → va_S A0 H0 H1 locs1 → W p l e R s m args below meth c H1 locs1 cells slots Q (F0 m (pc + 3) ls (.int r :: rest))) : W p l e R s m args below meth c H locs cells slots Q (F0 m pc ls st0) :=
  va_calli hr hS (fun q _ h => hF q h) hF (fun r u t H1 locs1 ht hvm hp hb hz hk hS1 => kk r u H1 locs1 hp (by rw [← ht]; exact hb.1) hb.2 hk hS1)
theorem rw_v {S : Type} {post : S → Prop} {Bw : S → va_W} {wc : va_W} (hr : va_Run p l e R s m args below meth c H locs cells slots 0 0 (F0 m pc ls st0) rest (va_Qv post (rwB D Bw (va_A wc H.size)) (va_A wc H.size) a) (va_A wc H.size)) (hS : va_S A0 H0 H locs) (hF : ∀ q, va_A wc H.size q → A0 q)
    (kk : ∀ (u : S) (H1 : Heap) (locs1 : List Loc), post u → va_P D vwCl (Bw u) H1 → va_D (va_A wc H.size) (Bw u) → (∀ q : Nat, q < H.size → ¬ va_A wc H.size q → H1[q]? = H[q]?) → va_S A0 H0 H1 locs1 → W p l e R s m args below meth c H1 locs1 cells slots Q (F0 m (pc + 3) ls rest)) : W p l e R s m args below meth c H locs cells slots Q (F0 m pc ls st0) :=
  va_callv hr hS (fun q _ h => hF q h) hF (fun u t H1 locs1 ht hvm hp hb hz hk hS1 => kk u H1 locs1 hp (by rw [← ht]; exact hb.1) hb.2 hk hS1)
theorem rw_iret {S : Type} {post : Int32 → S → Prop} {Bw : S → va_W} {A : Nat → Prop} {v : Int32} {cc : ByteArray} (hexec : p.tables.exec = Jvm.exec) (hb : c.code = cc) (hr : meth.sig.returnType = some .int) (hS : va_S A s.heap H locs) (hlocks : meth.locks = false) (u : S) (hv : post v u) (hP : va_P D vwCl (Bw u) H) (hD : va_D A (Bw u)) (hdg : decode cc pc = .ok (.ireturn, 1)) :
    W p l e R s m args below meth c H locs cells slots (MQ below (va_Qi post (rwB D Bw A) A) args s cells slots A) (F0 m pc ls [.int v]) :=
  W.iret (v := v) hexec hb hr (fun t ht hW => ⟨⟨v, u, rfl, hv, by rw [ht]; exact hP, hD⟩, hS.F ht⟩) hS.2.2 hdg hlocks
theorem rw_zret {S : Type} {post : Int32 → S → Prop} {Bw : S → va_W} {A : Nat → Prop} {v : Int32} {cc : ByteArray} (hexec : p.tables.exec = Jvm.exec) (hb : c.code = cc) (hr : meth.sig.returnType = some .boolean) (hS : va_S A s.heap H locs) (hlocks : meth.locks = false) (u : S) (hv : post v u) (hP : va_P D vwCl (Bw u) H) (hD : va_D A (Bw u)) (hn : narrow .boolean (.int v) = .int v) (hdg : decode cc pc = .ok (.ireturn, 1)) :
    W p l e R s m args below meth c H locs cells slots (MQ below (va_Qi post (rwB D Bw A) A) args s cells slots A) (F0 m pc ls [.int v]) :=
  W.zret (v := v) hexec hb hr hn (fun t ht hW => ⟨⟨v, u, rfl, hv, by rw [ht]; exact hP, hD⟩, hS.F ht⟩) hS.2.2 hdg hlocks
theorem rw_vret {S : Type} {post : S → Prop} {Bw : S → va_W} {A : Nat → Prop} {cc : ByteArray} (hexec : p.tables.exec = Jvm.exec) (hb : c.code = cc) (hr : meth.sig.returnType = none) (hS : va_S A s.heap H locs) (hlocks : meth.locks = false) (u : S) (hv : post u) (hP : va_P D vwCl (Bw u) H) (hD : va_D A (Bw u)) (hdg : decode cc pc = .ok (.return_, 1)) :
    W p l e R s m args below meth c H locs cells slots (MQ below (va_Qv post (rwB D Bw A) A) args s cells slots A) (F0 m pc ls []) :=
  W.vret hexec hb hr (fun t ht hW => ⟨⟨u, rfl, hv, by rw [ht]; exact hP, hD⟩, hS.F ht⟩) hS.2.2 hdg hlocks
variable {cc : ByteArray} {cl : List vw_C} {tys : List (ClassId × FieldType)} {ws : va_W} {A : Nat → Prop} {aa : Nat}
theorem wa_ild (hexec : p.tables.exec = Jvm.exec) (hb : c.code = cc) (hK : va_K D cl tys s) (hP : va_P D cl ws H) (q0 t0 : Nat) {cA : ClassId} {n : Nat} {f : Nat → Int32} (ha : ws[q0]? = some (aa, .inl (cA, n, .inl f))) (ht : tys[t0]? = some (cA, .int)) {i : Int32} (j : Nat) (hi : i = nI j) (hj : j < n) (hn : n < 2 ^ 31) (hdg : decode cc pc = .ok (.iaload, 1))
    (kk : W p l e R s m args below meth c H locs cells slots Q (F0 m (pc + 1) ls (.int (f j) :: rest))) : W p l e R s m args below meth c H locs cells slots Q (F0 m pc ls (.int i :: .ref aa :: rest)) := by
  subst hi
  refine va_iald hexec hb hK hP q0 t0 ha ht (vp_in_nI hj hn) hdg ?_
  rw [nI_clamp (Nat.lt_trans hj hn)]
  exact kk
theorem wa_zld (hexec : p.tables.exec = Jvm.exec) (hb : c.code = cc) (hK : va_K D cl tys s) (hP : va_P D cl ws H) (q0 t0 : Nat) {cA : ClassId} {n : Nat} {f : Nat → Int32} (ha : ws[q0]? = some (aa, .inl (cA, n, .inl f))) (ht : tys[t0]? = some (cA, .boolean)) {i : Int32} (j : Nat) (hi : i = nI j) (hj : j < n) (hn : n < 2 ^ 31) (hdg : decode cc pc = .ok (.baload, 1))
    (kk : W p l e R s m args below meth c H locs cells slots Q (F0 m (pc + 1) ls (.int (f j) :: rest))) : W p l e R s m args below meth c H locs cells slots Q (F0 m pc ls (.int i :: .ref aa :: rest)) := by
  subst hi
  refine va_zald hexec hb hK hP q0 t0 ha ht (vp_in_nI hj hn) hdg ?_
  rw [nI_clamp (Nat.lt_trans hj hn)]
  exact kk
theorem wa_ist (hexec : p.tables.exec = Jvm.exec) (hb : c.code = cc) (hK : va_K D cl tys s) (hP : va_P D cl ws H) (hD : va_D A ws) (hS : va_S A H0 H locs) (q0 t0 : Nat) {cA : ClassId} {n : Nat} {f : Nat → Int32} (ha : ws[q0]? = some (aa, .inl (cA, n, .inl f))) (ht : tys[t0]? = some (cA, .int)) {i x : Int32} (j : Nat) (hi : i = nI j) (hj : j < n) (hn : n < 2 ^ 31) (hdg : decode cc pc = .ok (.iastore, 1))
    (kk : ∀ (H1 : Heap) (locs1 : List Loc), va_P D cl (ws.set q0 (aa, .inl (cA, n, .inl (upd f j x)))) H1 → va_D A (ws.set q0 (aa, .inl (cA, n, .inl (upd f j x)))) → va_S A H0 H1 locs1 → W p l e R s m args below meth c H1 locs1 cells slots Q (F0 m (pc + 1) ls rest)) : W p l e R s m args below meth c H locs cells slots Q (F0 m pc ls (.int x :: .int i :: .ref aa :: rest)) := by
  subst hi
  refine va_iast hexec hb hK hP hD hS q0 t0 ha ht (vp_in_nI hj hn) hdg ?_
  rw [nI_clamp (Nat.lt_trans hj hn)]
  exact kk
end RR
end
section
theorem dX0_init_0 : decode cX0_init 0 = .ok (.aload_n 0, 1) := by decide +kernel
theorem dX0_init_1 : decode cX0_init 1 = .ok (.invokespecial 3, 3) := by decide +kernel
theorem dX0_init_4 : decode cX0_init 4 = .ok (.aload_n 0, 1) := by decide +kernel
theorem dX0_init_5 : decode cX0_init 5 = .ok (.bipush 10, 2) := by decide +kernel
theorem dX0_init_7 : decode cX0_init 7 = .ok (.newarray .int, 2) := by decide +kernel
theorem dX0_init_9 : decode cX0_init 9 = .ok (.putfield 9, 3) := by decide +kernel
theorem dX0_init_12 : decode cX0_init 12 = .ok (.aload_n 0, 1) := by decide +kernel
theorem dX0_init_13 : decode cX0_init 13 = .ok (.bipush 10, 2) := by decide +kernel
theorem dX0_init_15 : decode cX0_init 15 = .ok (.newarray .int, 2) := by decide +kernel
theorem dX0_init_17 : decode cX0_init 17 = .ok (.putfield 15, 3) := by decide +kernel
theorem dX0_init_20 : decode cX0_init 20 = .ok (.aload_n 0, 1) := by decide +kernel
theorem dX0_init_21 : decode cX0_init 21 = .ok (.bipush 10, 2) := by decide +kernel
theorem dX0_init_23 : decode cX0_init 23 = .ok (.newarray .int, 2) := by decide +kernel
theorem dX0_init_25 : decode cX0_init 25 = .ok (.putfield 18, 3) := by decide +kernel
theorem dX0_init_28 : decode cX0_init 28 = .ok (.return_, 1) := by decide +kernel
theorem dX0_forgetAll_0 : decode cX0_forgetAll 0 = .ok (.aload_n 0, 1) := by decide +kernel
theorem dX0_forgetAll_1 : decode cX0_forgetAll 1 = .ok (.iconst 0, 1) := by decide +kernel
theorem dX0_forgetAll_2 : decode cX0_forgetAll 2 = .ok (.putfield 21, 3) := by decide +kernel
theorem dX0_forgetAll_5 : decode cX0_forgetAll 5 = .ok (.aload_n 0, 1) := by decide +kernel
theorem dX0_forgetAll_6 : decode cX0_forgetAll 6 = .ok (.iconst 0, 1) := by decide +kernel
theorem dX0_forgetAll_7 : decode cX0_forgetAll 7 = .ok (.putfield 25, 3) := by decide +kernel
theorem dX0_forgetAll_10 : decode cX0_forgetAll 10 = .ok (.return_, 1) := by decide +kernel
theorem dX0_hasRoom_0 : decode cX0_hasRoom 0 = .ok (.aload_n 0, 1) := by decide +kernel
theorem dX0_hasRoom_1 : decode cX0_hasRoom 1 = .ok (.getfield 21, 3) := by decide +kernel
theorem dX0_hasRoom_4 : decode cX0_hasRoom 4 = .ok (.bipush 10, 2) := by decide +kernel
theorem dX0_hasRoom_6 : decode cX0_hasRoom 6 = .ok (.if_icmp .ge 7, 3) := by decide +kernel
theorem dX0_hasRoom_9 : decode cX0_hasRoom 9 = .ok (.iconst 1, 1) := by decide +kernel
theorem dX0_hasRoom_10 : decode cX0_hasRoom 10 = .ok (.goto 4, 3) := by decide +kernel
theorem dX0_hasRoom_13 : decode cX0_hasRoom 13 = .ok (.iconst 0, 1) := by decide +kernel
theorem dX0_hasRoom_14 : decode cX0_hasRoom 14 = .ok (.ireturn, 1) := by decide +kernel
set_option maxRecDepth 20000 in
theorem ggX0_add_X0_hasRoom : GoodIn wsX0_add wsX0_hasRoom := goodIn_r _ [9, 2, 10, 11, 12, 13, 14] (by decide +kernel) (by decide +kernel)
set_option maxRecDepth 20000 in
theorem gX0_add_X0_hasRoom : GoodIn wsX0_add (wsV RX0 28 RX0 yX0_hasRoom wsX0_hasRoom) := goodIn_app (goodIn_of _ (by decide +kernel)) ggX0_add_X0_hasRoom
theorem dX0_add_0 : decode cX0_add 0 = .ok (.aload_n 0, 1) := by decide +kernel
theorem dX0_add_1 : decode cX0_add 1 = .ok (.invokevirtual 28, 3) := by decide +kernel
theorem dX0_add_4 : decode cX0_add 4 = .ok (.ifCond .eq 43, 3) := by decide +kernel
theorem dX0_add_7 : decode cX0_add 7 = .ok (.aload_n 0, 1) := by decide +kernel
theorem dX0_add_8 : decode cX0_add 8 = .ok (.getfield 9, 3) := by decide +kernel
theorem dX0_add_11 : decode cX0_add 11 = .ok (.aload_n 0, 1) := by decide +kernel
theorem dX0_add_12 : decode cX0_add 12 = .ok (.getfield 21, 3) := by decide +kernel
theorem dX0_add_15 : decode cX0_add 15 = .ok (.iload_n 1, 1) := by decide +kernel
theorem dX0_add_16 : decode cX0_add 16 = .ok (.iastore, 1) := by decide +kernel
theorem dX0_add_17 : decode cX0_add 17 = .ok (.aload_n 0, 1) := by decide +kernel
theorem dX0_add_18 : decode cX0_add 18 = .ok (.getfield 15, 3) := by decide +kernel
theorem dX0_add_21 : decode cX0_add 21 = .ok (.aload_n 0, 1) := by decide +kernel
theorem dX0_add_22 : decode cX0_add 22 = .ok (.getfield 21, 3) := by decide +kernel
theorem dX0_add_25 : decode cX0_add 25 = .ok (.iload_n 2, 1) := by decide +kernel
theorem dX0_add_26 : decode cX0_add 26 = .ok (.iastore, 1) := by decide +kernel
theorem dX0_add_27 : decode cX0_add 27 = .ok (.aload_n 0, 1) := by decide +kernel
theorem dX0_add_28 : decode cX0_add 28 = .ok (.getfield 18, 3) := by decide +kernel
theorem dX0_add_31 : decode cX0_add 31 = .ok (.aload_n 0, 1) := by decide +kernel
theorem dX0_add_32 : decode cX0_add 32 = .ok (.getfield 21, 3) := by decide +kernel
theorem dX0_add_35 : decode cX0_add 35 = .ok (.iload_n 3, 1) := by decide +kernel
theorem dX0_add_36 : decode cX0_add 36 = .ok (.iastore, 1) := by decide +kernel
theorem dX0_add_37 : decode cX0_add 37 = .ok (.aload_n 0, 1) := by decide +kernel
theorem dX0_add_38 : decode cX0_add 38 = .ok (.dup, 1) := by decide +kernel
theorem dX0_add_39 : decode cX0_add 39 = .ok (.getfield 21, 3) := by decide +kernel
theorem dX0_add_42 : decode cX0_add 42 = .ok (.iconst 1, 1) := by decide +kernel
theorem dX0_add_43 : decode cX0_add 43 = .ok (.iadd, 1) := by decide +kernel
theorem dX0_add_44 : decode cX0_add 44 = .ok (.putfield 21, 3) := by decide +kernel
theorem dX0_add_47 : decode cX0_add 47 = .ok (.return_, 1) := by decide +kernel
theorem dX0_bodyHolds_0 : decode cX0_bodyHolds 0 = .ok (.aload_n 0, 1) := by decide +kernel
theorem dX0_bodyHolds_1 : decode cX0_bodyHolds 1 = .ok (.getfield 15, 3) := by decide +kernel
theorem dX0_bodyHolds_4 : decode cX0_bodyHolds 4 = .ok (.iload_n 1, 1) := by decide +kernel
theorem dX0_bodyHolds_5 : decode cX0_bodyHolds 5 = .ok (.iaload, 1) := by decide +kernel
theorem dX0_bodyHolds_6 : decode cX0_bodyHolds 6 = .ok (.iload_n 2, 1) := by decide +kernel
theorem dX0_bodyHolds_7 : decode cX0_bodyHolds 7 = .ok (.iconst (-1), 1) := by decide +kernel
theorem dX0_bodyHolds_8 : decode cX0_bodyHolds 8 = .ok (.ixor, 1) := by decide +kernel
theorem dX0_bodyHolds_9 : decode cX0_bodyHolds 9 = .ok (.iand, 1) := by decide +kernel
theorem dX0_bodyHolds_10 : decode cX0_bodyHolds 10 = .ok (.ifCond .ne 18, 3) := by decide +kernel
theorem dX0_bodyHolds_13 : decode cX0_bodyHolds 13 = .ok (.aload_n 0, 1) := by decide +kernel
theorem dX0_bodyHolds_14 : decode cX0_bodyHolds 14 = .ok (.getfield 18, 3) := by decide +kernel
theorem dX0_bodyHolds_17 : decode cX0_bodyHolds 17 = .ok (.iload_n 1, 1) := by decide +kernel
theorem dX0_bodyHolds_18 : decode cX0_bodyHolds 18 = .ok (.iaload, 1) := by decide +kernel
theorem dX0_bodyHolds_19 : decode cX0_bodyHolds 19 = .ok (.iload_n 3, 1) := by decide +kernel
theorem dX0_bodyHolds_20 : decode cX0_bodyHolds 20 = .ok (.iand, 1) := by decide +kernel
theorem dX0_bodyHolds_21 : decode cX0_bodyHolds 21 = .ok (.ifCond .ne 7, 3) := by decide +kernel
theorem dX0_bodyHolds_24 : decode cX0_bodyHolds 24 = .ok (.iconst 1, 1) := by decide +kernel
theorem dX0_bodyHolds_25 : decode cX0_bodyHolds 25 = .ok (.goto 4, 3) := by decide +kernel
theorem dX0_bodyHolds_28 : decode cX0_bodyHolds 28 = .ok (.iconst 0, 1) := by decide +kernel
theorem dX0_bodyHolds_29 : decode cX0_bodyHolds 29 = .ok (.ireturn, 1) := by decide +kernel
set_option maxRecDepth 20000 in
theorem ggX0_nextRound_X2_bitOf : GoodIn wsX0_nextRound wsX2_bitOf := goodIn_r _ [5] (by decide +kernel) (by decide +kernel)
set_option maxRecDepth 20000 in
theorem gX0_nextRound_X2_bitOf_n32 : GoodIn wsX0_nextRound (wsX2_bitOf) := ggX0_nextRound_X2_bitOf
set_option maxRecDepth 20000 in
theorem ggX0_nextRound_X0_bodyHolds : GoodIn wsX0_nextRound wsX0_bodyHolds := goodIn_r _ [10, 11, 12, 13, 14, 15, 16, 17] (by decide +kernel) (by decide +kernel)
set_option maxRecDepth 20000 in
theorem gX0_nextRound_X0_bodyHolds : GoodIn wsX0_nextRound (wsV RX0 36 RX0 yX0_bodyHolds wsX0_bodyHolds) := goodIn_app (goodIn_of _ (by decide +kernel)) ggX0_nextRound_X0_bodyHolds
theorem dX0_nextRound_0 : decode cX0_nextRound 0 = .ok (.iload_n 1, 1) := by decide +kernel
theorem dX0_nextRound_1 : decode cX0_nextRound 1 = .ok (.istore 4, 2) := by decide +kernel
theorem dX0_nextRound_3 : decode cX0_nextRound 3 = .ok (.iconst 0, 1) := by decide +kernel
theorem dX0_nextRound_4 : decode cX0_nextRound 4 = .ok (.istore 5, 2) := by decide +kernel
theorem dX0_nextRound_6 : decode cX0_nextRound 6 = .ok (.iload 5, 2) := by decide +kernel
theorem dX0_nextRound_8 : decode cX0_nextRound 8 = .ok (.aload_n 0, 1) := by decide +kernel
theorem dX0_nextRound_9 : decode cX0_nextRound 9 = .ok (.getfield 21, 3) := by decide +kernel
theorem dX0_nextRound_12 : decode cX0_nextRound 12 = .ok (.if_icmp .ge 56, 3) := by decide +kernel
theorem dX0_nextRound_15 : decode cX0_nextRound 15 = .ok (.iload_n 2, 1) := by decide +kernel
theorem dX0_nextRound_16 : decode cX0_nextRound 16 = .ok (.iload 5, 2) := by decide +kernel
theorem dX0_nextRound_18 : decode cX0_nextRound 18 = .ok (.invokestatic 32, 3) := by decide +kernel
theorem dX0_nextRound_21 : decode cX0_nextRound 21 = .ok (.iconst 1, 1) := by decide +kernel
theorem dX0_nextRound_22 : decode cX0_nextRound 22 = .ok (.if_icmp .ne 40, 3) := by decide +kernel
theorem dX0_nextRound_25 : decode cX0_nextRound 25 = .ok (.aload_n 0, 1) := by decide +kernel
theorem dX0_nextRound_26 : decode cX0_nextRound 26 = .ok (.getfield 9, 3) := by decide +kernel
theorem dX0_nextRound_29 : decode cX0_nextRound 29 = .ok (.iload 5, 2) := by decide +kernel
theorem dX0_nextRound_31 : decode cX0_nextRound 31 = .ok (.iaload, 1) := by decide +kernel
theorem dX0_nextRound_32 : decode cX0_nextRound 32 = .ok (.bipush 8, 2) := by decide +kernel
theorem dX0_nextRound_34 : decode cX0_nextRound 34 = .ok (.if_icmp .eq 28, 3) := by decide +kernel
theorem dX0_nextRound_37 : decode cX0_nextRound 37 = .ok (.aload_n 0, 1) := by decide +kernel
theorem dX0_nextRound_38 : decode cX0_nextRound 38 = .ok (.iload 5, 2) := by decide +kernel
theorem dX0_nextRound_40 : decode cX0_nextRound 40 = .ok (.iload_n 1, 1) := by decide +kernel
theorem dX0_nextRound_41 : decode cX0_nextRound 41 = .ok (.iload_n 3, 1) := by decide +kernel
theorem dX0_nextRound_42 : decode cX0_nextRound 42 = .ok (.invokevirtual 36, 3) := by decide +kernel
theorem dX0_nextRound_45 : decode cX0_nextRound 45 = .ok (.ifCond .eq 17, 3) := by decide +kernel
theorem dX0_nextRound_48 : decode cX0_nextRound 48 = .ok (.iload 4, 2) := by decide +kernel
theorem dX0_nextRound_50 : decode cX0_nextRound 50 = .ok (.iconst 1, 1) := by decide +kernel
theorem dX0_nextRound_51 : decode cX0_nextRound 51 = .ok (.aload_n 0, 1) := by decide +kernel
theorem dX0_nextRound_52 : decode cX0_nextRound 52 = .ok (.getfield 9, 3) := by decide +kernel
theorem dX0_nextRound_55 : decode cX0_nextRound 55 = .ok (.iload 5, 2) := by decide +kernel
theorem dX0_nextRound_57 : decode cX0_nextRound 57 = .ok (.iaload, 1) := by decide +kernel
theorem dX0_nextRound_58 : decode cX0_nextRound 58 = .ok (.ishl, 1) := by decide +kernel
theorem dX0_nextRound_59 : decode cX0_nextRound 59 = .ok (.ior, 1) := by decide +kernel
theorem dX0_nextRound_60 : decode cX0_nextRound 60 = .ok (.istore 4, 2) := by decide +kernel
theorem dX0_nextRound_62 : decode cX0_nextRound 62 = .ok (.iinc 5 1, 3) := by decide +kernel
theorem dX0_nextRound_65 : decode cX0_nextRound 65 = .ok (.goto (-59), 3) := by decide +kernel
theorem dX0_nextRound_68 : decode cX0_nextRound 68 = .ok (.iload 4, 2) := by decide +kernel
theorem dX0_nextRound_70 : decode cX0_nextRound 70 = .ok (.ireturn, 1) := by decide +kernel
set_option maxRecDepth 20000 in
theorem ggX0_comesOf_X0_nextRound : GoodIn wsX0_comesOf wsX0_nextRound := goodIn_r _ [5, 6, 7, 8, 9, 10, 11, 12, 13, 4, 14, 15, 16, 17, 18, 19, 20, 21] (by decide +kernel) (by decide +kernel)
set_option maxRecDepth 20000 in
theorem gX0_comesOf_X0_nextRound : GoodIn wsX0_comesOf (wsV RX0 40 RX0 yX0_nextRound wsX0_nextRound) := goodIn_app (goodIn_of _ (by decide +kernel)) ggX0_comesOf_X0_nextRound
theorem dX0_comesOf_0 : decode cX0_comesOf 0 = .ok (.iload_n 1, 1) := by decide +kernel
theorem dX0_comesOf_1 : decode cX0_comesOf 1 = .ok (.istore 4, 2) := by decide +kernel
theorem dX0_comesOf_3 : decode cX0_comesOf 3 = .ok (.iconst 0, 1) := by decide +kernel
theorem dX0_comesOf_4 : decode cX0_comesOf 4 = .ok (.istore 5, 2) := by decide +kernel
theorem dX0_comesOf_6 : decode cX0_comesOf 6 = .ok (.iload 5, 2) := by decide +kernel
theorem dX0_comesOf_8 : decode cX0_comesOf 8 = .ok (.bipush 8, 2) := by decide +kernel
theorem dX0_comesOf_10 : decode cX0_comesOf 10 = .ok (.if_icmp .ge 33, 3) := by decide +kernel
theorem dX0_comesOf_13 : decode cX0_comesOf 13 = .ok (.aload_n 0, 1) := by decide +kernel
theorem dX0_comesOf_14 : decode cX0_comesOf 14 = .ok (.iload 4, 2) := by decide +kernel
theorem dX0_comesOf_16 : decode cX0_comesOf 16 = .ok (.iload_n 2, 1) := by decide +kernel
theorem dX0_comesOf_17 : decode cX0_comesOf 17 = .ok (.iload_n 3, 1) := by decide +kernel
theorem dX0_comesOf_18 : decode cX0_comesOf 18 = .ok (.invokevirtual 40, 3) := by decide +kernel
theorem dX0_comesOf_21 : decode cX0_comesOf 21 = .ok (.istore 6, 2) := by decide +kernel
theorem dX0_comesOf_23 : decode cX0_comesOf 23 = .ok (.iload 6, 2) := by decide +kernel
theorem dX0_comesOf_25 : decode cX0_comesOf 25 = .ok (.iload 4, 2) := by decide +kernel
theorem dX0_comesOf_27 : decode cX0_comesOf 27 = .ok (.if_icmp .ne 6, 3) := by decide +kernel
theorem dX0_comesOf_30 : decode cX0_comesOf 30 = .ok (.goto 13, 3) := by decide +kernel
theorem dX0_comesOf_33 : decode cX0_comesOf 33 = .ok (.iload 6, 2) := by decide +kernel
theorem dX0_comesOf_35 : decode cX0_comesOf 35 = .ok (.istore 4, 2) := by decide +kernel
theorem dX0_comesOf_37 : decode cX0_comesOf 37 = .ok (.iinc 5 1, 3) := by decide +kernel
theorem dX0_comesOf_40 : decode cX0_comesOf 40 = .ok (.goto (-34), 3) := by decide +kernel
theorem dX0_comesOf_43 : decode cX0_comesOf 43 = .ok (.iload 4, 2) := by decide +kernel
theorem dX0_comesOf_45 : decode cX0_comesOf 45 = .ok (.ireturn, 1) := by decide +kernel
set_option maxRecDepth 20000 in
theorem ggX0_brokenBy_X2_bitOf : GoodIn wsX0_brokenBy wsX2_bitOf := goodIn_r _ [5] (by decide +kernel) (by decide +kernel)
set_option maxRecDepth 20000 in
theorem gX0_brokenBy_X2_bitOf_n32 : GoodIn wsX0_brokenBy (wsX2_bitOf) := ggX0_brokenBy_X2_bitOf
set_option maxRecDepth 20000 in
theorem ggX0_brokenBy_X0_bodyHolds : GoodIn wsX0_brokenBy wsX0_bodyHolds := goodIn_r _ [10, 11, 12, 13, 14, 15, 16, 17] (by decide +kernel) (by decide +kernel)
set_option maxRecDepth 20000 in
theorem gX0_brokenBy_X0_bodyHolds : GoodIn wsX0_brokenBy (wsV RX0 36 RX0 yX0_bodyHolds wsX0_bodyHolds) := goodIn_app (goodIn_of _ (by decide +kernel)) ggX0_brokenBy_X0_bodyHolds
theorem dX0_brokenBy_0 : decode cX0_brokenBy 0 = .ok (.iconst 0, 1) := by decide +kernel
theorem dX0_brokenBy_1 : decode cX0_brokenBy 1 = .ok (.istore_n 3, 1) := by decide +kernel
theorem dX0_brokenBy_2 : decode cX0_brokenBy 2 = .ok (.iconst 0, 1) := by decide +kernel
theorem dX0_brokenBy_3 : decode cX0_brokenBy 3 = .ok (.istore 4, 2) := by decide +kernel
theorem dX0_brokenBy_5 : decode cX0_brokenBy 5 = .ok (.iload 4, 2) := by decide +kernel
theorem dX0_brokenBy_7 : decode cX0_brokenBy 7 = .ok (.aload_n 0, 1) := by decide +kernel
theorem dX0_brokenBy_8 : decode cX0_brokenBy 8 = .ok (.getfield 21, 3) := by decide +kernel
theorem dX0_brokenBy_11 : decode cX0_brokenBy 11 = .ok (.if_icmp .ge 51, 3) := by decide +kernel
theorem dX0_brokenBy_14 : decode cX0_brokenBy 14 = .ok (.iload_n 2, 1) := by decide +kernel
theorem dX0_brokenBy_15 : decode cX0_brokenBy 15 = .ok (.iload 4, 2) := by decide +kernel
theorem dX0_brokenBy_17 : decode cX0_brokenBy 17 = .ok (.invokestatic 32, 3) := by decide +kernel
theorem dX0_brokenBy_20 : decode cX0_brokenBy 20 = .ok (.iconst 1, 1) := by decide +kernel
theorem dX0_brokenBy_21 : decode cX0_brokenBy 21 = .ok (.if_icmp .ne 35, 3) := by decide +kernel
theorem dX0_brokenBy_24 : decode cX0_brokenBy 24 = .ok (.iload_n 1, 1) := by decide +kernel
theorem dX0_brokenBy_25 : decode cX0_brokenBy 25 = .ok (.aload_n 0, 1) := by decide +kernel
theorem dX0_brokenBy_26 : decode cX0_brokenBy 26 = .ok (.getfield 9, 3) := by decide +kernel
theorem dX0_brokenBy_29 : decode cX0_brokenBy 29 = .ok (.iload 4, 2) := by decide +kernel
theorem dX0_brokenBy_31 : decode cX0_brokenBy 31 = .ok (.iaload, 1) := by decide +kernel
theorem dX0_brokenBy_32 : decode cX0_brokenBy 32 = .ok (.invokestatic 32, 3) := by decide +kernel
theorem dX0_brokenBy_35 : decode cX0_brokenBy 35 = .ok (.ifCond .ne 21, 3) := by decide +kernel
theorem dX0_brokenBy_38 : decode cX0_brokenBy 38 = .ok (.aload_n 0, 1) := by decide +kernel
theorem dX0_brokenBy_39 : decode cX0_brokenBy 39 = .ok (.iload 4, 2) := by decide +kernel
theorem dX0_brokenBy_41 : decode cX0_brokenBy 41 = .ok (.iload_n 1, 1) := by decide +kernel
theorem dX0_brokenBy_42 : decode cX0_brokenBy 42 = .ok (.iload_n 1, 1) := by decide +kernel
theorem dX0_brokenBy_43 : decode cX0_brokenBy 43 = .ok (.invokevirtual 36, 3) := by decide +kernel
theorem dX0_brokenBy_46 : decode cX0_brokenBy 46 = .ok (.ifCond .eq 10, 3) := by decide +kernel
theorem dX0_brokenBy_49 : decode cX0_brokenBy 49 = .ok (.iload_n 3, 1) := by decide +kernel
theorem dX0_brokenBy_50 : decode cX0_brokenBy 50 = .ok (.iconst 1, 1) := by decide +kernel
theorem dX0_brokenBy_51 : decode cX0_brokenBy 51 = .ok (.iload 4, 2) := by decide +kernel
theorem dX0_brokenBy_53 : decode cX0_brokenBy 53 = .ok (.ishl, 1) := by decide +kernel
theorem dX0_brokenBy_54 : decode cX0_brokenBy 54 = .ok (.ior, 1) := by decide +kernel
theorem dX0_brokenBy_55 : decode cX0_brokenBy 55 = .ok (.istore_n 3, 1) := by decide +kernel
theorem dX0_brokenBy_56 : decode cX0_brokenBy 56 = .ok (.iinc 4 1, 3) := by decide +kernel
theorem dX0_brokenBy_59 : decode cX0_brokenBy 59 = .ok (.goto (-54), 3) := by decide +kernel
theorem dX0_brokenBy_62 : decode cX0_brokenBy 62 = .ok (.iload_n 3, 1) := by decide +kernel
theorem dX0_brokenBy_63 : decode cX0_brokenBy 63 = .ok (.ireturn, 1) := by decide +kernel
set_option maxRecDepth 20000 in
theorem ggX0_upholds_X0_brokenBy : GoodIn wsX0_upholds wsX0_brokenBy := goodIn_r _ [6, 7, 8, 9, 10, 11, 12, 13, 14, 5, 15, 16, 17, 26, 27, 28, 29, 30] (by decide +kernel) (by decide +kernel)
set_option maxRecDepth 20000 in
theorem gX0_upholds_X0_brokenBy : GoodIn wsX0_upholds (wsV RX0 44 RX0 yX0_brokenBy wsX0_brokenBy) := goodIn_app (goodIn_of _ (by decide +kernel)) ggX0_upholds_X0_brokenBy
set_option maxRecDepth 20000 in
theorem ggX0_upholds_X0_comesOf : GoodIn wsX0_upholds wsX0_comesOf := goodIn_r _ [21, 22, 23, 24, 5, 25, 7, 8, 9, 10, 11, 12, 13, 14, 15, 16, 17, 26, 27, 28, 29, 30] (by decide +kernel) (by decide +kernel)
set_option maxRecDepth 20000 in
theorem gX0_upholds_X0_comesOf : GoodIn wsX0_upholds (wsV RX0 47 RX0 yX0_comesOf wsX0_comesOf) := goodIn_app (goodIn_of _ (by decide +kernel)) ggX0_upholds_X0_comesOf
theorem dX0_upholds_0 : decode cX0_upholds 0 = .ok (.iload_n 3, 1) := by decide +kernel
theorem dX0_upholds_1 : decode cX0_upholds 1 = .ok (.iload_n 1, 1) := by decide +kernel
theorem dX0_upholds_2 : decode cX0_upholds 2 = .ok (.iconst (-1), 1) := by decide +kernel
theorem dX0_upholds_3 : decode cX0_upholds 3 = .ok (.ixor, 1) := by decide +kernel
theorem dX0_upholds_4 : decode cX0_upholds 4 = .ok (.iand, 1) := by decide +kernel
theorem dX0_upholds_5 : decode cX0_upholds 5 = .ok (.ifCond .ne 34, 3) := by decide +kernel
theorem dX0_upholds_8 : decode cX0_upholds 8 = .ok (.aload_n 0, 1) := by decide +kernel
theorem dX0_upholds_9 : decode cX0_upholds 9 = .ok (.iload_n 1, 1) := by decide +kernel
theorem dX0_upholds_10 : decode cX0_upholds 10 = .ok (.iload_n 2, 1) := by decide +kernel
theorem dX0_upholds_11 : decode cX0_upholds 11 = .ok (.invokevirtual 44, 3) := by decide +kernel
theorem dX0_upholds_14 : decode cX0_upholds 14 = .ok (.ifCond .ne 25, 3) := by decide +kernel
theorem dX0_upholds_17 : decode cX0_upholds 17 = .ok (.aload_n 0, 1) := by decide +kernel
theorem dX0_upholds_18 : decode cX0_upholds 18 = .ok (.iload_n 3, 1) := by decide +kernel
theorem dX0_upholds_19 : decode cX0_upholds 19 = .ok (.aload_n 0, 1) := by decide +kernel
theorem dX0_upholds_20 : decode cX0_upholds 20 = .ok (.getfield 25, 3) := by decide +kernel
theorem dX0_upholds_23 : decode cX0_upholds 23 = .ok (.iload_n 1, 1) := by decide +kernel
theorem dX0_upholds_24 : decode cX0_upholds 24 = .ok (.iand, 1) := by decide +kernel
theorem dX0_upholds_25 : decode cX0_upholds 25 = .ok (.ior, 1) := by decide +kernel
theorem dX0_upholds_26 : decode cX0_upholds 26 = .ok (.iload_n 2, 1) := by decide +kernel
theorem dX0_upholds_27 : decode cX0_upholds 27 = .ok (.iload_n 1, 1) := by decide +kernel
theorem dX0_upholds_28 : decode cX0_upholds 28 = .ok (.invokevirtual 47, 3) := by decide +kernel
theorem dX0_upholds_31 : decode cX0_upholds 31 = .ok (.iload_n 1, 1) := by decide +kernel
theorem dX0_upholds_32 : decode cX0_upholds 32 = .ok (.if_icmp .ne 7, 3) := by decide +kernel
theorem dX0_upholds_35 : decode cX0_upholds 35 = .ok (.iconst 1, 1) := by decide +kernel
theorem dX0_upholds_36 : decode cX0_upholds 36 = .ok (.goto 4, 3) := by decide +kernel
theorem dX0_upholds_39 : decode cX0_upholds 39 = .ok (.iconst 0, 1) := by decide +kernel
theorem dX0_upholds_40 : decode cX0_upholds 40 = .ok (.ireturn, 1) := by decide +kernel
set_option maxRecDepth 20000 in
theorem ggX0_firstRuleBringing_X2_bitOf : GoodIn wsX0_firstRuleBringing wsX2_bitOf := goodIn_r _ [5] (by decide +kernel) (by decide +kernel)
set_option maxRecDepth 20000 in
theorem gX0_firstRuleBringing_X2_bitOf_n32 : GoodIn wsX0_firstRuleBringing (wsX2_bitOf) := ggX0_firstRuleBringing_X2_bitOf
set_option maxRecDepth 20000 in
theorem ggX0_firstRuleBringing_X0_bodyHolds : GoodIn wsX0_firstRuleBringing wsX0_bodyHolds := goodIn_r _ [10, 11, 12, 13, 14, 15, 16, 17] (by decide +kernel) (by decide +kernel)
set_option maxRecDepth 20000 in
theorem gX0_firstRuleBringing_X0_bodyHolds : GoodIn wsX0_firstRuleBringing (wsV RX0 36 RX0 yX0_bodyHolds wsX0_bodyHolds) := goodIn_app (goodIn_of _ (by decide +kernel)) ggX0_firstRuleBringing_X0_bodyHolds
theorem dX0_firstRuleBringing_0 : decode cX0_firstRuleBringing 0 = .ok (.iconst 0, 1) := by decide +kernel
theorem dX0_firstRuleBringing_1 : decode cX0_firstRuleBringing 1 = .ok (.istore 5, 2) := by decide +kernel
theorem dX0_firstRuleBringing_3 : decode cX0_firstRuleBringing 3 = .ok (.iload 5, 2) := by decide +kernel
theorem dX0_firstRuleBringing_5 : decode cX0_firstRuleBringing 5 = .ok (.aload_n 0, 1) := by decide +kernel
theorem dX0_firstRuleBringing_6 : decode cX0_firstRuleBringing 6 = .ok (.getfield 21, 3) := by decide +kernel
theorem dX0_firstRuleBringing_9 : decode cX0_firstRuleBringing 9 = .ok (.if_icmp .ge 45, 3) := by decide +kernel
theorem dX0_firstRuleBringing_12 : decode cX0_firstRuleBringing 12 = .ok (.iload_n 3, 1) := by decide +kernel
theorem dX0_firstRuleBringing_13 : decode cX0_firstRuleBringing 13 = .ok (.iload 5, 2) := by decide +kernel
theorem dX0_firstRuleBringing_15 : decode cX0_firstRuleBringing 15 = .ok (.invokestatic 32, 3) := by decide +kernel
theorem dX0_firstRuleBringing_18 : decode cX0_firstRuleBringing 18 = .ok (.iconst 1, 1) := by decide +kernel
theorem dX0_firstRuleBringing_19 : decode cX0_firstRuleBringing 19 = .ok (.if_icmp .ne 29, 3) := by decide +kernel
theorem dX0_firstRuleBringing_22 : decode cX0_firstRuleBringing 22 = .ok (.aload_n 0, 1) := by decide +kernel
theorem dX0_firstRuleBringing_23 : decode cX0_firstRuleBringing 23 = .ok (.getfield 9, 3) := by decide +kernel
theorem dX0_firstRuleBringing_26 : decode cX0_firstRuleBringing 26 = .ok (.iload 5, 2) := by decide +kernel
theorem dX0_firstRuleBringing_28 : decode cX0_firstRuleBringing 28 = .ok (.iaload, 1) := by decide +kernel
theorem dX0_firstRuleBringing_29 : decode cX0_firstRuleBringing 29 = .ok (.iload_n 1, 1) := by decide +kernel
theorem dX0_firstRuleBringing_30 : decode cX0_firstRuleBringing 30 = .ok (.if_icmp .ne 18, 3) := by decide +kernel
theorem dX0_firstRuleBringing_33 : decode cX0_firstRuleBringing 33 = .ok (.aload_n 0, 1) := by decide +kernel
theorem dX0_firstRuleBringing_34 : decode cX0_firstRuleBringing 34 = .ok (.iload 5, 2) := by decide +kernel
theorem dX0_firstRuleBringing_36 : decode cX0_firstRuleBringing 36 = .ok (.iload_n 2, 1) := by decide +kernel
theorem dX0_firstRuleBringing_37 : decode cX0_firstRuleBringing 37 = .ok (.iload 4, 2) := by decide +kernel
theorem dX0_firstRuleBringing_39 : decode cX0_firstRuleBringing 39 = .ok (.invokevirtual 36, 3) := by decide +kernel
theorem dX0_firstRuleBringing_42 : decode cX0_firstRuleBringing 42 = .ok (.ifCond .eq 6, 3) := by decide +kernel
theorem dX0_firstRuleBringing_45 : decode cX0_firstRuleBringing 45 = .ok (.iload 5, 2) := by decide +kernel
theorem dX0_firstRuleBringing_47 : decode cX0_firstRuleBringing 47 = .ok (.ireturn, 1) := by decide +kernel
theorem dX0_firstRuleBringing_48 : decode cX0_firstRuleBringing 48 = .ok (.iinc 5 1, 3) := by decide +kernel
theorem dX0_firstRuleBringing_51 : decode cX0_firstRuleBringing 51 = .ok (.goto (-48), 3) := by decide +kernel
theorem dX0_firstRuleBringing_54 : decode cX0_firstRuleBringing 54 = .ok (.bipush (-9), 2) := by decide +kernel
theorem dX0_firstRuleBringing_56 : decode cX0_firstRuleBringing 56 = .ok (.ireturn, 1) := by decide +kernel
set_option maxRecDepth 20000 in
theorem ggX0_ifsUnder_X0_partUnder : GoodIn wsX0_ifsUnder wsX0_partUnder := goodIn_r _ [6, 7, 8, 9, 10, 11, 12, 13, 14, 15, 16] (by decide +kernel) (by decide +kernel)
set_option maxRecDepth 20000 in
theorem gX0_ifsUnder_X0_partUnder : GoodIn wsX0_ifsUnder (wsV RX0 50 RX0 yX0_partUnder wsX0_partUnder) := goodIn_app (goodIn_of _ (by decide +kernel)) ggX0_ifsUnder_X0_partUnder
theorem dX0_ifsUnder_0 : decode cX0_ifsUnder 0 = .ok (.aload_n 0, 1) := by decide +kernel
theorem dX0_ifsUnder_1 : decode cX0_ifsUnder 1 = .ok (.aload_n 0, 1) := by decide +kernel
theorem dX0_ifsUnder_2 : decode cX0_ifsUnder 2 = .ok (.getfield 15, 3) := by decide +kernel
theorem dX0_ifsUnder_5 : decode cX0_ifsUnder 5 = .ok (.iload_n 1, 1) := by decide +kernel
theorem dX0_ifsUnder_6 : decode cX0_ifsUnder 6 = .ok (.iload_n 2, 1) := by decide +kernel
theorem dX0_ifsUnder_7 : decode cX0_ifsUnder 7 = .ok (.invokevirtual 50, 3) := by decide +kernel
theorem dX0_ifsUnder_10 : decode cX0_ifsUnder 10 = .ok (.ireturn, 1) := by decide +kernel
set_option maxRecDepth 20000 in
theorem ggX0_unlessUnder_X0_partUnder : GoodIn wsX0_unlessUnder wsX0_partUnder := goodIn_r _ [6, 7, 8, 9, 10, 11, 12, 13, 14, 15, 16] (by decide +kernel) (by decide +kernel)
set_option maxRecDepth 20000 in
theorem gX0_unlessUnder_X0_partUnder : GoodIn wsX0_unlessUnder (wsV RX0 50 RX0 yX0_partUnder wsX0_partUnder) := goodIn_app (goodIn_of _ (by decide +kernel)) ggX0_unlessUnder_X0_partUnder
theorem dX0_unlessUnder_0 : decode cX0_unlessUnder 0 = .ok (.aload_n 0, 1) := by decide +kernel
theorem dX0_unlessUnder_1 : decode cX0_unlessUnder 1 = .ok (.aload_n 0, 1) := by decide +kernel
theorem dX0_unlessUnder_2 : decode cX0_unlessUnder 2 = .ok (.getfield 18, 3) := by decide +kernel
theorem dX0_unlessUnder_5 : decode cX0_unlessUnder 5 = .ok (.iload_n 1, 1) := by decide +kernel
theorem dX0_unlessUnder_6 : decode cX0_unlessUnder 6 = .ok (.iload_n 2, 1) := by decide +kernel
theorem dX0_unlessUnder_7 : decode cX0_unlessUnder 7 = .ok (.invokevirtual 50, 3) := by decide +kernel
theorem dX0_unlessUnder_10 : decode cX0_unlessUnder 10 = .ok (.ireturn, 1) := by decide +kernel
set_option maxRecDepth 20000 in
theorem ggX0_partUnder_X2_bitOf : GoodIn wsX0_partUnder wsX2_bitOf := goodIn_r _ [5] (by decide +kernel) (by decide +kernel)
set_option maxRecDepth 20000 in
theorem gX0_partUnder_X2_bitOf_n32 : GoodIn wsX0_partUnder (wsX2_bitOf) := ggX0_partUnder_X2_bitOf
theorem dX0_partUnder_0 : decode cX0_partUnder 0 = .ok (.iconst 0, 1) := by decide +kernel
theorem dX0_partUnder_1 : decode cX0_partUnder 1 = .ok (.istore 4, 2) := by decide +kernel
theorem dX0_partUnder_3 : decode cX0_partUnder 3 = .ok (.iconst 0, 1) := by decide +kernel
theorem dX0_partUnder_4 : decode cX0_partUnder 4 = .ok (.istore 5, 2) := by decide +kernel
theorem dX0_partUnder_6 : decode cX0_partUnder 6 = .ok (.iload 5, 2) := by decide +kernel
theorem dX0_partUnder_8 : decode cX0_partUnder 8 = .ok (.aload_n 0, 1) := by decide +kernel
theorem dX0_partUnder_9 : decode cX0_partUnder 9 = .ok (.getfield 21, 3) := by decide +kernel
theorem dX0_partUnder_12 : decode cX0_partUnder 12 = .ok (.if_icmp .ge 43, 3) := by decide +kernel
theorem dX0_partUnder_15 : decode cX0_partUnder 15 = .ok (.iload_n 3, 1) := by decide +kernel
theorem dX0_partUnder_16 : decode cX0_partUnder 16 = .ok (.iload 5, 2) := by decide +kernel
theorem dX0_partUnder_18 : decode cX0_partUnder 18 = .ok (.invokestatic 32, 3) := by decide +kernel
theorem dX0_partUnder_21 : decode cX0_partUnder 21 = .ok (.iconst 1, 1) := by decide +kernel
theorem dX0_partUnder_22 : decode cX0_partUnder 22 = .ok (.if_icmp .ne 27, 3) := by decide +kernel
theorem dX0_partUnder_25 : decode cX0_partUnder 25 = .ok (.iload_n 2, 1) := by decide +kernel
theorem dX0_partUnder_26 : decode cX0_partUnder 26 = .ok (.aload_n 0, 1) := by decide +kernel
theorem dX0_partUnder_27 : decode cX0_partUnder 27 = .ok (.getfield 9, 3) := by decide +kernel
theorem dX0_partUnder_30 : decode cX0_partUnder 30 = .ok (.iload 5, 2) := by decide +kernel
theorem dX0_partUnder_32 : decode cX0_partUnder 32 = .ok (.iaload, 1) := by decide +kernel
theorem dX0_partUnder_33 : decode cX0_partUnder 33 = .ok (.invokestatic 32, 3) := by decide +kernel
theorem dX0_partUnder_36 : decode cX0_partUnder 36 = .ok (.iconst 1, 1) := by decide +kernel
theorem dX0_partUnder_37 : decode cX0_partUnder 37 = .ok (.if_icmp .ne 12, 3) := by decide +kernel
theorem dX0_partUnder_40 : decode cX0_partUnder 40 = .ok (.iload 4, 2) := by decide +kernel
theorem dX0_partUnder_42 : decode cX0_partUnder 42 = .ok (.aload_n 1, 1) := by decide +kernel
theorem dX0_partUnder_43 : decode cX0_partUnder 43 = .ok (.iload 5, 2) := by decide +kernel
theorem dX0_partUnder_45 : decode cX0_partUnder 45 = .ok (.iaload, 1) := by decide +kernel
theorem dX0_partUnder_46 : decode cX0_partUnder 46 = .ok (.ior, 1) := by decide +kernel
theorem dX0_partUnder_47 : decode cX0_partUnder 47 = .ok (.istore 4, 2) := by decide +kernel
theorem dX0_partUnder_49 : decode cX0_partUnder 49 = .ok (.iinc 5 1, 3) := by decide +kernel
theorem dX0_partUnder_52 : decode cX0_partUnder 52 = .ok (.goto (-46), 3) := by decide +kernel
theorem dX0_partUnder_55 : decode cX0_partUnder 55 = .ok (.iload 4, 2) := by decide +kernel
theorem dX0_partUnder_57 : decode cX0_partUnder 57 = .ok (.ireturn, 1) := by decide +kernel
set_option maxRecDepth 20000 in
theorem ggX0_hangsByIf_X0_ifsUnder : GoodIn wsX0_hangsByIf wsX0_ifsUnder := goodIn_r _ [5, 6, 7, 8, 9, 4, 10, 11, 12, 13, 14, 15, 16, 17, 18, 19, 20] (by decide +kernel) (by decide +kernel)
set_option maxRecDepth 20000 in
theorem gX0_hangsByIf_X0_ifsUnder : GoodIn wsX0_hangsByIf (wsV RX0 54 RX0 yX0_ifsUnder wsX0_ifsUnder) := goodIn_app (goodIn_of _ (by decide +kernel)) ggX0_hangsByIf_X0_ifsUnder
set_option maxRecDepth 20000 in
theorem ggX0_hangsByIf_X2_bitOf : GoodIn wsX0_hangsByIf wsX2_bitOf := goodIn_r _ [15] (by decide +kernel) (by decide +kernel)
set_option maxRecDepth 20000 in
theorem gX0_hangsByIf_X2_bitOf_n32 : GoodIn wsX0_hangsByIf (wsX2_bitOf) := ggX0_hangsByIf_X2_bitOf
theorem dX0_hangsByIf_0 : decode cX0_hangsByIf 0 = .ok (.aload_n 0, 1) := by decide +kernel
theorem dX0_hangsByIf_1 : decode cX0_hangsByIf 1 = .ok (.iconst 1, 1) := by decide +kernel
theorem dX0_hangsByIf_2 : decode cX0_hangsByIf 2 = .ok (.iload_n 1, 1) := by decide +kernel
theorem dX0_hangsByIf_3 : decode cX0_hangsByIf 3 = .ok (.ishl, 1) := by decide +kernel
theorem dX0_hangsByIf_4 : decode cX0_hangsByIf 4 = .ok (.iload_n 2, 1) := by decide +kernel
theorem dX0_hangsByIf_5 : decode cX0_hangsByIf 5 = .ok (.invokevirtual 54, 3) := by decide +kernel
theorem dX0_hangsByIf_8 : decode cX0_hangsByIf 8 = .ok (.istore_n 3, 1) := by decide +kernel
theorem dX0_hangsByIf_9 : decode cX0_hangsByIf 9 = .ok (.iconst 0, 1) := by decide +kernel
theorem dX0_hangsByIf_10 : decode cX0_hangsByIf 10 = .ok (.istore 4, 2) := by decide +kernel
theorem dX0_hangsByIf_12 : decode cX0_hangsByIf 12 = .ok (.iload 4, 2) := by decide +kernel
theorem dX0_hangsByIf_14 : decode cX0_hangsByIf 14 = .ok (.bipush 8, 2) := by decide +kernel
theorem dX0_hangsByIf_16 : decode cX0_hangsByIf 16 = .ok (.if_icmp .ge 18, 3) := by decide +kernel
theorem dX0_hangsByIf_19 : decode cX0_hangsByIf 19 = .ok (.iload_n 3, 1) := by decide +kernel
theorem dX0_hangsByIf_20 : decode cX0_hangsByIf 20 = .ok (.aload_n 0, 1) := by decide +kernel
theorem dX0_hangsByIf_21 : decode cX0_hangsByIf 21 = .ok (.iload_n 3, 1) := by decide +kernel
theorem dX0_hangsByIf_22 : decode cX0_hangsByIf 22 = .ok (.iload_n 2, 1) := by decide +kernel
theorem dX0_hangsByIf_23 : decode cX0_hangsByIf 23 = .ok (.invokevirtual 54, 3) := by decide +kernel
theorem dX0_hangsByIf_26 : decode cX0_hangsByIf 26 = .ok (.ior, 1) := by decide +kernel
theorem dX0_hangsByIf_27 : decode cX0_hangsByIf 27 = .ok (.istore_n 3, 1) := by decide +kernel
theorem dX0_hangsByIf_28 : decode cX0_hangsByIf 28 = .ok (.iinc 4 1, 3) := by decide +kernel
theorem dX0_hangsByIf_31 : decode cX0_hangsByIf 31 = .ok (.goto (-19), 3) := by decide +kernel
theorem dX0_hangsByIf_34 : decode cX0_hangsByIf 34 = .ok (.iload_n 3, 1) := by decide +kernel
theorem dX0_hangsByIf_35 : decode cX0_hangsByIf 35 = .ok (.iload_n 1, 1) := by decide +kernel
theorem dX0_hangsByIf_36 : decode cX0_hangsByIf 36 = .ok (.invokestatic 32, 3) := by decide +kernel
theorem dX0_hangsByIf_39 : decode cX0_hangsByIf 39 = .ok (.iconst 1, 1) := by decide +kernel
theorem dX0_hangsByIf_40 : decode cX0_hangsByIf 40 = .ok (.if_icmp .ne 7, 3) := by decide +kernel
theorem dX0_hangsByIf_43 : decode cX0_hangsByIf 43 = .ok (.iconst 1, 1) := by decide +kernel
theorem dX0_hangsByIf_44 : decode cX0_hangsByIf 44 = .ok (.goto 4, 3) := by decide +kernel
theorem dX0_hangsByIf_47 : decode cX0_hangsByIf 47 = .ok (.iconst 0, 1) := by decide +kernel
theorem dX0_hangsByIf_48 : decode cX0_hangsByIf 48 = .ok (.ireturn, 1) := by decide +kernel
set_option maxRecDepth 20000 in
theorem ggX0_isTangled_X0_ifsUnder : GoodIn wsX0_isTangled wsX0_ifsUnder := goodIn_r _ [5, 6, 7, 8, 9, 4, 10, 11, 12, 13, 14, 15, 21, 22, 23, 24, 25] (by decide +kernel) (by decide +kernel)
set_option maxRecDepth 20000 in
theorem gX0_isTangled_X0_ifsUnder : GoodIn wsX0_isTangled (wsV RX0 54 RX0 yX0_ifsUnder wsX0_ifsUnder) := goodIn_app (goodIn_of _ (by decide +kernel)) ggX0_isTangled_X0_ifsUnder
set_option maxRecDepth 20000 in
theorem ggX0_isTangled_X0_unlessUnder : GoodIn wsX0_isTangled wsX0_unlessUnder := goodIn_r _ [19, 20, 7, 8, 9, 4, 10, 11, 12, 13, 14, 15, 21, 22, 23, 24, 25] (by decide +kernel) (by decide +kernel)
set_option maxRecDepth 20000 in
theorem gX0_isTangled_X0_unlessUnder : GoodIn wsX0_isTangled (wsV RX0 57 RX0 yX0_unlessUnder wsX0_unlessUnder) := goodIn_app (goodIn_of _ (by decide +kernel)) ggX0_isTangled_X0_unlessUnder
set_option maxRecDepth 20000 in
theorem ggX0_isTangled_X2_bitOf : GoodIn wsX0_isTangled wsX2_bitOf := goodIn_r _ [15] (by decide +kernel) (by decide +kernel)
set_option maxRecDepth 20000 in
theorem gX0_isTangled_X2_bitOf_n32 : GoodIn wsX0_isTangled (wsX2_bitOf) := ggX0_isTangled_X2_bitOf
theorem dX0_isTangled_0 : decode cX0_isTangled 0 = .ok (.iconst 1, 1) := by decide +kernel
theorem dX0_isTangled_1 : decode cX0_isTangled 1 = .ok (.iload_n 1, 1) := by decide +kernel
theorem dX0_isTangled_2 : decode cX0_isTangled 2 = .ok (.ishl, 1) := by decide +kernel
theorem dX0_isTangled_3 : decode cX0_isTangled 3 = .ok (.istore_n 3, 1) := by decide +kernel
theorem dX0_isTangled_4 : decode cX0_isTangled 4 = .ok (.iconst 0, 1) := by decide +kernel
theorem dX0_isTangled_5 : decode cX0_isTangled 5 = .ok (.istore 4, 2) := by decide +kernel
theorem dX0_isTangled_7 : decode cX0_isTangled 7 = .ok (.iconst 0, 1) := by decide +kernel
theorem dX0_isTangled_8 : decode cX0_isTangled 8 = .ok (.istore 5, 2) := by decide +kernel
theorem dX0_isTangled_10 : decode cX0_isTangled 10 = .ok (.iload 5, 2) := by decide +kernel
theorem dX0_isTangled_12 : decode cX0_isTangled 12 = .ok (.bipush 16, 2) := by decide +kernel
theorem dX0_isTangled_14 : decode cX0_isTangled 14 = .ok (.if_icmp .ge 49, 3) := by decide +kernel
theorem dX0_isTangled_17 : decode cX0_isTangled 17 = .ok (.iload_n 3, 1) := by decide +kernel
theorem dX0_isTangled_18 : decode cX0_isTangled 18 = .ok (.aload_n 0, 1) := by decide +kernel
theorem dX0_isTangled_19 : decode cX0_isTangled 19 = .ok (.iload_n 3, 1) := by decide +kernel
theorem dX0_isTangled_20 : decode cX0_isTangled 20 = .ok (.iload_n 2, 1) := by decide +kernel
theorem dX0_isTangled_21 : decode cX0_isTangled 21 = .ok (.invokevirtual 54, 3) := by decide +kernel
theorem dX0_isTangled_24 : decode cX0_isTangled 24 = .ok (.ior, 1) := by decide +kernel
theorem dX0_isTangled_25 : decode cX0_isTangled 25 = .ok (.aload_n 0, 1) := by decide +kernel
theorem dX0_isTangled_26 : decode cX0_isTangled 26 = .ok (.iload 4, 2) := by decide +kernel
theorem dX0_isTangled_28 : decode cX0_isTangled 28 = .ok (.iload_n 2, 1) := by decide +kernel
theorem dX0_isTangled_29 : decode cX0_isTangled 29 = .ok (.invokevirtual 57, 3) := by decide +kernel
theorem dX0_isTangled_32 : decode cX0_isTangled 32 = .ok (.ior, 1) := by decide +kernel
theorem dX0_isTangled_33 : decode cX0_isTangled 33 = .ok (.istore 6, 2) := by decide +kernel
theorem dX0_isTangled_35 : decode cX0_isTangled 35 = .ok (.iload 4, 2) := by decide +kernel
theorem dX0_isTangled_37 : decode cX0_isTangled 37 = .ok (.aload_n 0, 1) := by decide +kernel
theorem dX0_isTangled_38 : decode cX0_isTangled 38 = .ok (.iload 4, 2) := by decide +kernel
theorem dX0_isTangled_40 : decode cX0_isTangled 40 = .ok (.iload_n 2, 1) := by decide +kernel
theorem dX0_isTangled_41 : decode cX0_isTangled 41 = .ok (.invokevirtual 54, 3) := by decide +kernel
theorem dX0_isTangled_44 : decode cX0_isTangled 44 = .ok (.aload_n 0, 1) := by decide +kernel
theorem dX0_isTangled_45 : decode cX0_isTangled 45 = .ok (.iload_n 3, 1) := by decide +kernel
theorem dX0_isTangled_46 : decode cX0_isTangled 46 = .ok (.iload_n 2, 1) := by decide +kernel
theorem dX0_isTangled_47 : decode cX0_isTangled 47 = .ok (.invokevirtual 57, 3) := by decide +kernel
theorem dX0_isTangled_50 : decode cX0_isTangled 50 = .ok (.ior, 1) := by decide +kernel
theorem dX0_isTangled_51 : decode cX0_isTangled 51 = .ok (.ior, 1) := by decide +kernel
theorem dX0_isTangled_52 : decode cX0_isTangled 52 = .ok (.istore 4, 2) := by decide +kernel
theorem dX0_isTangled_54 : decode cX0_isTangled 54 = .ok (.iload 6, 2) := by decide +kernel
theorem dX0_isTangled_56 : decode cX0_isTangled 56 = .ok (.istore_n 3, 1) := by decide +kernel
theorem dX0_isTangled_57 : decode cX0_isTangled 57 = .ok (.iinc 5 1, 3) := by decide +kernel
theorem dX0_isTangled_60 : decode cX0_isTangled 60 = .ok (.goto (-50), 3) := by decide +kernel
theorem dX0_isTangled_63 : decode cX0_isTangled 63 = .ok (.iload 4, 2) := by decide +kernel
theorem dX0_isTangled_65 : decode cX0_isTangled 65 = .ok (.iload_n 1, 1) := by decide +kernel
theorem dX0_isTangled_66 : decode cX0_isTangled 66 = .ok (.invokestatic 32, 3) := by decide +kernel
theorem dX0_isTangled_69 : decode cX0_isTangled 69 = .ok (.iconst 1, 1) := by decide +kernel
theorem dX0_isTangled_70 : decode cX0_isTangled 70 = .ok (.if_icmp .ne 7, 3) := by decide +kernel
theorem dX0_isTangled_73 : decode cX0_isTangled 73 = .ok (.iconst 1, 1) := by decide +kernel
theorem dX0_isTangled_74 : decode cX0_isTangled 74 = .ok (.goto 4, 3) := by decide +kernel
theorem dX0_isTangled_77 : decode cX0_isTangled 77 = .ok (.iconst 0, 1) := by decide +kernel
theorem dX0_isTangled_78 : decode cX0_isTangled 78 = .ok (.ireturn, 1) := by decide +kernel
theorem dJ6_bitCount_0f7a4_0 : decode cJ6_bitCount_0f7a4 0 = .ok (.iload_n 0, 1) := by decide +kernel
theorem dJ6_bitCount_0f7a4_1 : decode cJ6_bitCount_0f7a4 1 = .ok (.iload_n 0, 1) := by decide +kernel
theorem dJ6_bitCount_0f7a4_2 : decode cJ6_bitCount_0f7a4 2 = .ok (.iconst 1, 1) := by decide +kernel
theorem dJ6_bitCount_0f7a4_3 : decode cJ6_bitCount_0f7a4 3 = .ok (.iushr, 1) := by decide +kernel
theorem dJ6_bitCount_0f7a4_4 : decode cJ6_bitCount_0f7a4 4 = .ok (.ldc_w 265, 3) := by decide +kernel
theorem dJ6_bitCount_0f7a4_7 : decode cJ6_bitCount_0f7a4 7 = .ok (.iand, 1) := by decide +kernel
theorem dJ6_bitCount_0f7a4_8 : decode cJ6_bitCount_0f7a4 8 = .ok (.isub, 1) := by decide +kernel
theorem dJ6_bitCount_0f7a4_9 : decode cJ6_bitCount_0f7a4 9 = .ok (.istore_n 0, 1) := by decide +kernel
theorem dJ6_bitCount_0f7a4_10 : decode cJ6_bitCount_0f7a4 10 = .ok (.iload_n 0, 1) := by decide +kernel
theorem dJ6_bitCount_0f7a4_11 : decode cJ6_bitCount_0f7a4 11 = .ok (.ldc_w 266, 3) := by decide +kernel
theorem dJ6_bitCount_0f7a4_14 : decode cJ6_bitCount_0f7a4 14 = .ok (.iand, 1) := by decide +kernel
theorem dJ6_bitCount_0f7a4_15 : decode cJ6_bitCount_0f7a4 15 = .ok (.iload_n 0, 1) := by decide +kernel
theorem dJ6_bitCount_0f7a4_16 : decode cJ6_bitCount_0f7a4 16 = .ok (.iconst 2, 1) := by decide +kernel
theorem dJ6_bitCount_0f7a4_17 : decode cJ6_bitCount_0f7a4 17 = .ok (.iushr, 1) := by decide +kernel
theorem dJ6_bitCount_0f7a4_18 : decode cJ6_bitCount_0f7a4 18 = .ok (.ldc_w 266, 3) := by decide +kernel
theorem dJ6_bitCount_0f7a4_21 : decode cJ6_bitCount_0f7a4 21 = .ok (.iand, 1) := by decide +kernel
theorem dJ6_bitCount_0f7a4_22 : decode cJ6_bitCount_0f7a4 22 = .ok (.iadd, 1) := by decide +kernel
theorem dJ6_bitCount_0f7a4_23 : decode cJ6_bitCount_0f7a4 23 = .ok (.istore_n 0, 1) := by decide +kernel
theorem dJ6_bitCount_0f7a4_24 : decode cJ6_bitCount_0f7a4 24 = .ok (.iload_n 0, 1) := by decide +kernel
theorem dJ6_bitCount_0f7a4_25 : decode cJ6_bitCount_0f7a4 25 = .ok (.iload_n 0, 1) := by decide +kernel
theorem dJ6_bitCount_0f7a4_26 : decode cJ6_bitCount_0f7a4 26 = .ok (.iconst 4, 1) := by decide +kernel
theorem dJ6_bitCount_0f7a4_27 : decode cJ6_bitCount_0f7a4 27 = .ok (.iushr, 1) := by decide +kernel
theorem dJ6_bitCount_0f7a4_28 : decode cJ6_bitCount_0f7a4 28 = .ok (.iadd, 1) := by decide +kernel
theorem dJ6_bitCount_0f7a4_29 : decode cJ6_bitCount_0f7a4 29 = .ok (.ldc_w 267, 3) := by decide +kernel
theorem dJ6_bitCount_0f7a4_32 : decode cJ6_bitCount_0f7a4 32 = .ok (.iand, 1) := by decide +kernel
theorem dJ6_bitCount_0f7a4_33 : decode cJ6_bitCount_0f7a4 33 = .ok (.istore_n 0, 1) := by decide +kernel
theorem dJ6_bitCount_0f7a4_34 : decode cJ6_bitCount_0f7a4 34 = .ok (.iload_n 0, 1) := by decide +kernel
theorem dJ6_bitCount_0f7a4_35 : decode cJ6_bitCount_0f7a4 35 = .ok (.iload_n 0, 1) := by decide +kernel
theorem dJ6_bitCount_0f7a4_36 : decode cJ6_bitCount_0f7a4 36 = .ok (.bipush 8, 2) := by decide +kernel
theorem dJ6_bitCount_0f7a4_38 : decode cJ6_bitCount_0f7a4 38 = .ok (.iushr, 1) := by decide +kernel
theorem dJ6_bitCount_0f7a4_39 : decode cJ6_bitCount_0f7a4 39 = .ok (.iadd, 1) := by decide +kernel
theorem dJ6_bitCount_0f7a4_40 : decode cJ6_bitCount_0f7a4 40 = .ok (.istore_n 0, 1) := by decide +kernel
theorem dJ6_bitCount_0f7a4_41 : decode cJ6_bitCount_0f7a4 41 = .ok (.iload_n 0, 1) := by decide +kernel
theorem dJ6_bitCount_0f7a4_42 : decode cJ6_bitCount_0f7a4 42 = .ok (.iload_n 0, 1) := by decide +kernel
theorem dJ6_bitCount_0f7a4_43 : decode cJ6_bitCount_0f7a4 43 = .ok (.bipush 16, 2) := by decide +kernel
theorem dJ6_bitCount_0f7a4_45 : decode cJ6_bitCount_0f7a4 45 = .ok (.iushr, 1) := by decide +kernel
theorem dJ6_bitCount_0f7a4_46 : decode cJ6_bitCount_0f7a4 46 = .ok (.iadd, 1) := by decide +kernel
theorem dJ6_bitCount_0f7a4_47 : decode cJ6_bitCount_0f7a4 47 = .ok (.istore_n 0, 1) := by decide +kernel
theorem dJ6_bitCount_0f7a4_48 : decode cJ6_bitCount_0f7a4 48 = .ok (.iload_n 0, 1) := by decide +kernel
theorem dJ6_bitCount_0f7a4_49 : decode cJ6_bitCount_0f7a4 49 = .ok (.bipush 63, 2) := by decide +kernel
theorem dJ6_bitCount_0f7a4_51 : decode cJ6_bitCount_0f7a4 51 = .ok (.iand, 1) := by decide +kernel
theorem dJ6_bitCount_0f7a4_52 : decode cJ6_bitCount_0f7a4 52 = .ok (.ireturn, 1) := by decide +kernel
end
section
theorem dX2_isSentence_0 : decode cX2_isSentence 0 = .ok (.iload_n 0, 1) := by decide +kernel
theorem dX2_isSentence_1 : decode cX2_isSentence 1 = .ok (.ifCond .lt 13, 3) := by decide +kernel
theorem dX2_isSentence_4 : decode cX2_isSentence 4 = .ok (.iload_n 0, 1) := by decide +kernel
theorem dX2_isSentence_5 : decode cX2_isSentence 5 = .ok (.bipush 8, 2) := by decide +kernel
theorem dX2_isSentence_7 : decode cX2_isSentence 7 = .ok (.if_icmp .ge 7, 3) := by decide +kernel
theorem dX2_isSentence_10 : decode cX2_isSentence 10 = .ok (.iconst 1, 1) := by decide +kernel
theorem dX2_isSentence_11 : decode cX2_isSentence 11 = .ok (.goto 4, 3) := by decide +kernel
theorem dX2_isSentence_14 : decode cX2_isSentence 14 = .ok (.iconst 0, 1) := by decide +kernel
theorem dX2_isSentence_15 : decode cX2_isSentence 15 = .ok (.ireturn, 1) := by decide +kernel
theorem dX2_bitOf_0 : decode cX2_bitOf 0 = .ok (.iload_n 0, 1) := by decide +kernel
theorem dX2_bitOf_1 : decode cX2_bitOf 1 = .ok (.iload_n 1, 1) := by decide +kernel
theorem dX2_bitOf_2 : decode cX2_bitOf 2 = .ok (.ishr, 1) := by decide +kernel
theorem dX2_bitOf_3 : decode cX2_bitOf 3 = .ok (.iconst 1, 1) := by decide +kernel
theorem dX2_bitOf_4 : decode cX2_bitOf 4 = .ok (.iand, 1) := by decide +kernel
theorem dX2_bitOf_5 : decode cX2_bitOf 5 = .ok (.ireturn, 1) := by decide +kernel
end
section
theorem lv_cv {p : Program} {l : Launch} {e : Env} {R : Room} {s : State} {m : MethodId} {args : Array Value} {below : List Frame} {meth : Method} {c : Code} {H : Heap} {locs : List Loc} {cells slots : Nat} {Q : State → Prop} {pc : Nat} {ls : Array Slot} {rest : List Value} {x y : Int32} (h : x = y) (k : W p l e R s m args below meth c H locs cells slots Q (F0 m pc ls (.int y :: rest))) : W p l e R s m args below meth c H locs cells slots Q (F0 m pc ls (.int x :: rest)) := by
  subst h
  exact k
end
section
def wB (a0 : Nat) (a1 : Nat) (a2 : Nat) (a3 : Nat) (b1 : ClassId) (b2 : ClassId) (b3 : ClassId) (sz : Int32) (may : Int32) (hd : Nat → Int32) (fi : Nat → Int32) (un : Nat → Int32) : va_W := [(a0, .inr (0, [.int sz, .int may, .ref a1, .ref a2, .ref a3])), (a1, .inl (b1, 10, .inl hd)), (a2, .inl (b2, 10, .inl fi)), (a3, .inl (b3, 10, .inl un))]
def tB (a0 : Nat) (a1 : Nat) (a2 : Nat) (a3 : Nat) (b1 : ClassId) (b2 : ClassId) (b3 : ClassId) : List (ClassId × FieldType) := [(b1, .int), (b2, .int), (b3, .int)]

def s_X2_bitOf (bits : Int32) (place : Int32) : Int32 := ((bits >>> (place &&& 31)) &&& 1)
set_option maxHeartbeats 4000000 in
set_option maxRecDepth 100000 in
theorem c_X2_bitOf (l : Launch) (D : va_G) (bits : Int32) (place : Int32) (sz : Nat) : Met l yX2_bitOf wsX2_bitOf ({ frames := 0, cells := 0, slots := 0, locals := 0 }) (va_Pc [.int bits, .int place] (cPre D ([] : List (ClassId × FieldType)) ([] : va_W) sz)) (va_Qi (fun r (_ : Unit) => r = s_X2_bitOf bits place) (fun _ _ => True) (fun q => sz ≤ q)) 0 0 (fun q => sz ≤ q) := by
  refine Met.ofW (cc := cX2_bitOf) (maxL := 2) (ret := (some .int)) (by decide) rfl ?_
  intro p e s m args below meth c s₁ B hml hv
  obtain ⟨rfl, hsz, hP, hK, hD, hN⟩ := hv
  have hx := B.exec
  have hb := B.bytes
  have hr := B.returns
  have hts := atoms_spec (ws := wsX2_bitOf) B.pre
  have hown : s.vm.findClass RX2 = some m.cls := findClass_of_methodNamed B.named
  have hlocks := B.notSynchronized
  subst hsz
  obtain ⟨A, hAe⟩ : ∃ A : Nat → Prop, A = (fun q : Nat => s.heap.size ≤ q) := ⟨_, rfl⟩
  have hA : ∀ q : Nat, s.heap.size ≤ q → A q := fun q h => by rw [hAe]; exact h
  have hS : va_S A s.heap s.heap [] := va_S.rf
  subst hAe
  have hl := lv_entry ([.int bits, .int place]) (n := 2) (Nat.le_of_ble_eq_true rfl)
  rw [lg_entry_eq]
  generalize (lg_sl ([.int bits, .int place]) ++ List.replicate (2 - (lg_sl ([.int bits, .int place])).length) Slot.unset).toArray = ls at hl ⊢
  replace hl : lv_has ls 2 [(0, .int bits), (1, .int place)] := hl
  have hKe := hK.sub (tys' := []) [] rfl
  refine lv_iload_n hx hb dX2_bitOf_0 rfl (lv_at hl 0 rfl) ?_
  refine lv_iload_n hx hb dX2_bitOf_1 rfl (lv_at hl 1 rfl) ?_
  refine lv_ishr hx hb dX2_bitOf_2 ?_
  refine lv_iconst (v := 1) hx hb dX2_bitOf_3 (by decide) ?_
  refine lv_iand hx hb dX2_bitOf_4 ?_
  exact ro_iret hx hb hr hS hlocks (show s_X2_bitOf bits place = ((bits >>> (place &&& 31)) &&& 1) from by (unfold s_X2_bitOf; (try dsimp only); first | done | rfl)).symm dX2_bitOf_5

def s_X2_isSentence (a : Int32) : Int32 := (if a < 0 then 0 else (if 8 ≤ a then 0 else 1))
set_option maxHeartbeats 4000000 in
set_option maxRecDepth 100000 in
theorem c_X2_isSentence (l : Launch) (D : va_G) (a : Int32) (sz : Nat) : Met l yX2_isSentence wsX2_isSentence ({ frames := 0, cells := 0, slots := 0, locals := 0 }) (va_Pc [.int a] (cPre D ([] : List (ClassId × FieldType)) ([] : va_W) sz)) (va_Qi (fun r (_ : Unit) => r = s_X2_isSentence a) (fun _ _ => True) (fun q => sz ≤ q)) 0 0 (fun q => sz ≤ q) := by
  refine Met.ofW (cc := cX2_isSentence) (maxL := 1) (ret := (some .boolean)) (by decide) rfl ?_
  intro p e s m args below meth c s₁ B hml hv
  obtain ⟨rfl, hsz, hP, hK, hD, hN⟩ := hv
  have hx := B.exec
  have hb := B.bytes
  have hr := B.returns
  have hts := atoms_spec (ws := wsX2_isSentence) B.pre
  have hown : s.vm.findClass RX2 = some m.cls := findClass_of_methodNamed B.named
  have hlocks := B.notSynchronized
  subst hsz
  obtain ⟨A, hAe⟩ : ∃ A : Nat → Prop, A = (fun q : Nat => s.heap.size ≤ q) := ⟨_, rfl⟩
  have hA : ∀ q : Nat, s.heap.size ≤ q → A q := fun q h => by rw [hAe]; exact h
  have hS : va_S A s.heap s.heap [] := va_S.rf
  subst hAe
  have hl := lv_entry ([.int a]) (n := 1) (Nat.le_of_ble_eq_true rfl)
  rw [lg_entry_eq]
  generalize (lg_sl ([.int a]) ++ List.replicate (1 - (lg_sl ([.int a])).length) Slot.unset).toArray = ls at hl ⊢
  replace hl : lv_has ls 1 [(0, .int a)] := hl
  have hKe := hK.sub (tys' := []) [] rfl
  refine lv_iload_n hx hb dX2_isSentence_0 rfl (lv_at hl 0 rfl) ?_
  refine lv_if_lt (tgt := 14) hx hb dX2_isSentence_1 (by decide) (fun c_1_1 => ?_) (fun c_1_1 => ?_)
  · refine lv_iconst (v := 0) hx hb dX2_isSentence_14 (by decide) ?_
    exact ro_zret hx hb hr hS hlocks (show s_X2_isSentence a = 0 from by (unfold s_X2_isSentence; (try dsimp only); (try rw [if_pos c_1_1]); first | done | rfl)).symm (by decide +kernel) dX2_isSentence_15
  · refine lv_iload_n hx hb dX2_isSentence_4 rfl (lv_at hl 0 rfl) ?_
    refine lv_bipush (v := 8) hx hb dX2_isSentence_5 (by decide) ?_
    refine lv_icmp_ge (tgt := 14) hx hb dX2_isSentence_7 (by decide) (fun c_7_2 => ?_) (fun c_7_2 => ?_)
    · refine lv_iconst (v := 0) hx hb dX2_isSentence_14 (by decide) ?_
      exact ro_zret hx hb hr hS hlocks (show s_X2_isSentence a = 0 from by (unfold s_X2_isSentence; (try dsimp only); (try rw [if_neg c_1_1]); (try rw [if_pos c_7_2]); first | done | rfl)).symm (by decide +kernel) dX2_isSentence_15
    · refine lv_iconst (v := 1) hx hb dX2_isSentence_10 (by decide) ?_
      refine lv_goto (tgt := 15) hx hb dX2_isSentence_11 (by decide) ?_
      exact ro_zret hx hb hr hS hlocks (show s_X2_isSentence a = 1 from by (unfold s_X2_isSentence; (try dsimp only); (try rw [if_neg c_1_1]); (try rw [if_neg c_7_2]); first | done | rfl)).symm (by decide +kernel) dX2_isSentence_15

def s_X0_hasRoom (n : Nat) : Int32 := (if 10 ≤ (nI n) then 0 else 1)
set_option maxHeartbeats 4000000 in
set_option maxRecDepth 100000 in
theorem c_X0_hasRoom (l : Launch) (D : va_G) (a0 : Nat) (a1 : Nat) (a2 : Nat) (a3 : Nat) (b1 : ClassId) (b2 : ClassId) (b3 : ClassId) (n : Nat) (may : Int32) (hd : Nat → Int32) (fi : Nat → Int32) (un : Nat → Int32) (hn : n ≤ 10) (sz : Nat) : Met l yX0_hasRoom wsX0_hasRoom ({ frames := 0, cells := 0, slots := 0, locals := 0 }) (va_Pc [.ref a0] (cPre D (tB a0 a1 a2 a3 b1 b2 b3) (wB a0 a1 a2 a3 b1 b2 b3 (nI n) may hd fi un) sz)) (va_Qi (fun r (_ : Unit) => r = s_X0_hasRoom n) (fun _ _ => True) (fun q => sz ≤ q)) 0 0 (fun q => sz ≤ q) := by
  refine Met.ofW (cc := cX0_hasRoom) (maxL := 1) (ret := (some .boolean)) (by decide) rfl ?_
  intro p e s m args below meth c s₁ B hml hv
  obtain ⟨rfl, hsz, hP, hK, hD, hN⟩ := hv
  have hx := B.exec
  have hb := B.bytes
  have hr := B.returns
  have hts := atoms_spec (ws := wsX0_hasRoom) B.pre
  have hown : s.vm.findClass RX0 = some m.cls := findClass_of_methodNamed B.named
  have hlocks := B.notSynchronized
  have hinX0 : ∀ w ∈ wsX00, w ∈ wsX0_hasRoom := fun w h => List.mem_cons_of_mem _ (List.mem_append_right _ h)
  subst hsz
  obtain ⟨A, hAe⟩ : ∃ A : Nat → Prop, A = (fun q : Nat => s.heap.size ≤ q) := ⟨_, rfl⟩
  have hA : ∀ q : Nat, s.heap.size ≤ q → A q := fun q h => by rw [hAe]; exact h
  have hS : va_S A s.heap s.heap [] := va_S.rf
  subst hAe
  have hl := lv_entry ([.ref a0]) (n := 1) (Nat.le_of_ble_eq_true rfl)
  rw [lg_entry_eq]
  generalize (lg_sl ([.ref a0]) ++ List.replicate (1 - (lg_sl ([.ref a0])).length) Slot.unset).toArray = ls at hl ⊢
  replace hl : lv_has ls 1 [(0, .ref a0)] := hl
  have hKe := hK.sub (tys' := []) [] rfl
  refine lv_aload_n hx hb dX0_hasRoom_0 rfl (lv_at hl 0 rfl) ?_
  refine va_get (D := D) (ci := 0) (v := .int (nI n)) (C := RX0) (T := TX0) (N := 5) hx hb hts hinX0 hown hK hP 0 rfl rfl 0 (by decide) (hts (.fieldLink RX0 21 "HoldUnless$RuleBook" "size" "I") (by decide +kernel)) (fun _ h9 => h9) rfl dX0_hasRoom_1 ?_
  refine lv_bipush (v := 10) hx hb dX0_hasRoom_4 (by decide) ?_
  refine lv_icmp_ge (tgt := 13) hx hb dX0_hasRoom_6 (by decide) (fun c_6_1 => ?_) (fun c_6_1 => ?_)
  · refine lv_iconst (v := 0) hx hb dX0_hasRoom_13 (by decide) ?_
    exact ro_zret hx hb hr hS hlocks (show s_X0_hasRoom n = 0 from by (unfold s_X0_hasRoom; (try dsimp only); (try rw [if_pos c_6_1]); first | done | rfl)).symm (by decide +kernel) dX0_hasRoom_14
  · refine lv_iconst (v := 1) hx hb dX0_hasRoom_9 (by decide) ?_
    refine lv_goto (tgt := 14) hx hb dX0_hasRoom_10 (by decide) ?_
    exact ro_zret hx hb hr hS hlocks (show s_X0_hasRoom n = 1 from by (unfold s_X0_hasRoom; (try dsimp only); (try rw [if_neg c_6_1]); first | done | rfl)).symm (by decide +kernel) dX0_hasRoom_14

def s_X0_bodyHolds (fi : Nat → Int32) (un : Nat → Int32) (k : Nat) (came : Int32) (against : Int32) : Int32 := (if ((fi k) &&& (came ^^^ (-1))) = 0 then (if ((un k) &&& against) = 0 then 1 else 0) else 0)
set_option maxHeartbeats 4000000 in
set_option maxRecDepth 100000 in
theorem c_X0_bodyHolds (l : Launch) (D : va_G) (a0 : Nat) (a1 : Nat) (a2 : Nat) (a3 : Nat) (b1 : ClassId) (b2 : ClassId) (b3 : ClassId) (n : Nat) (may : Int32) (hd : Nat → Int32) (fi : Nat → Int32) (un : Nat → Int32) (k : Nat) (came : Int32) (against : Int32) (hk : k < 10) (sz : Nat) : Met l yX0_bodyHolds wsX0_bodyHolds ({ frames := 0, cells := 0, slots := 0, locals := 0 }) (va_Pc [.ref a0, .int (nI k), .int came, .int against] (cPre D (tB a0 a1 a2 a3 b1 b2 b3) (wB a0 a1 a2 a3 b1 b2 b3 (nI n) may hd fi un) sz)) (va_Qi (fun r (_ : Unit) => r = s_X0_bodyHolds fi un k came against) (fun _ _ => True) (fun q => sz ≤ q)) 0 0 (fun q => sz ≤ q) := by
  refine Met.ofW (cc := cX0_bodyHolds) (maxL := 4) (ret := (some .boolean)) (by decide) rfl ?_
  intro p e s m args below meth c s₁ B hml hv
  obtain ⟨rfl, hsz, hP, hK, hD, hN⟩ := hv
  have hx := B.exec
  have hb := B.bytes
  have hr := B.returns
  have hts := atoms_spec (ws := wsX0_bodyHolds) B.pre
  have hown : s.vm.findClass RX0 = some m.cls := findClass_of_methodNamed B.named
  have hlocks := B.notSynchronized
  have hinX0 : ∀ w ∈ wsX00, w ∈ wsX0_bodyHolds := fun w h => List.mem_cons_of_mem _ (List.mem_append_right _ h)
  subst hsz
  obtain ⟨A, hAe⟩ : ∃ A : Nat → Prop, A = (fun q : Nat => s.heap.size ≤ q) := ⟨_, rfl⟩
  have hA : ∀ q : Nat, s.heap.size ≤ q → A q := fun q h => by rw [hAe]; exact h
  have hS : va_S A s.heap s.heap [] := va_S.rf
  subst hAe
  have hl := lv_entry ([.ref a0, .int (nI k), .int came, .int against]) (n := 4) (Nat.le_of_ble_eq_true rfl)
  rw [lg_entry_eq]
  generalize (lg_sl ([.ref a0, .int (nI k), .int came, .int against]) ++ List.replicate (4 - (lg_sl ([.ref a0, .int (nI k), .int came, .int against])).length) Slot.unset).toArray = ls at hl ⊢
  replace hl : lv_has ls 4 [(0, .ref a0), (1, .int (nI k)), (2, .int came), (3, .int against)] := hl
  have hKe := hK.sub (tys' := []) [] rfl
  refine lv_aload_n hx hb dX0_bodyHolds_0 rfl (lv_at hl 0 rfl) ?_
  refine va_get (D := D) (ci := 0) (v := .ref a2) (C := RX0) (T := TX0) (N := 5) hx hb hts hinX0 hown hK hP 0 rfl rfl 3 (by decide) (hts (.fieldLink RX0 15 "HoldUnless$RuleBook" "ifs" "[I") (by decide +kernel)) (fun _ h9 => h9) rfl dX0_bodyHolds_1 ?_
  refine lv_iload_n hx hb dX0_bodyHolds_4 rfl (lv_at hl 1 rfl) ?_
  refine wa_ild hx hb hK hP 2 1 rfl rfl k rfl (by omega) (by decide) dX0_bodyHolds_5 ?_
  refine lv_iload_n hx hb dX0_bodyHolds_6 rfl (lv_at hl 2 rfl) ?_
  refine lv_iconst (v := (-1)) hx hb dX0_bodyHolds_7 (by decide) ?_
  refine lv_ixor hx hb dX0_bodyHolds_8 ?_
  refine lv_iand hx hb dX0_bodyHolds_9 ?_
  refine lv_if_ne (tgt := 28) hx hb dX0_bodyHolds_10 (by decide) (fun c_10_1 => ?_) (fun c_10_1 => ?_)
  · refine lv_iconst (v := 0) hx hb dX0_bodyHolds_28 (by decide) ?_
    exact ro_zret hx hb hr hS hlocks (show s_X0_bodyHolds fi un k came against = 0 from by (unfold s_X0_bodyHolds; (try dsimp only); (try rw [if_neg c_10_1]); first | done | rfl)).symm (by decide +kernel) dX0_bodyHolds_29
  · refine lv_aload_n hx hb dX0_bodyHolds_13 rfl (lv_at hl 0 rfl) ?_
    refine va_get (D := D) (ci := 0) (v := .ref a3) (C := RX0) (T := TX0) (N := 5) hx hb hts hinX0 hown hK hP 0 rfl rfl 4 (by decide) (hts (.fieldLink RX0 18 "HoldUnless$RuleBook" "unless" "[I") (by decide +kernel)) (fun _ h9 => h9) rfl dX0_bodyHolds_14 ?_
    refine lv_iload_n hx hb dX0_bodyHolds_17 rfl (lv_at hl 1 rfl) ?_
    refine wa_ild hx hb hK hP 3 2 rfl rfl k rfl (by omega) (by decide) dX0_bodyHolds_18 ?_
    refine lv_iload_n hx hb dX0_bodyHolds_19 rfl (lv_at hl 3 rfl) ?_
    refine lv_iand hx hb dX0_bodyHolds_20 ?_
    refine lv_if_ne (tgt := 28) hx hb dX0_bodyHolds_21 (by decide) (fun c_21_2 => ?_) (fun c_21_2 => ?_)
    · refine lv_iconst (v := 0) hx hb dX0_bodyHolds_28 (by decide) ?_
      exact ro_zret hx hb hr hS hlocks (show s_X0_bodyHolds fi un k came against = 0 from by (unfold s_X0_bodyHolds; (try dsimp only); (try rw [if_pos c_10_1]); (try rw [if_neg c_21_2]); first | done | rfl)).symm (by decide +kernel) dX0_bodyHolds_29
    · refine lv_iconst (v := 1) hx hb dX0_bodyHolds_24 (by decide) ?_
      refine lv_goto (tgt := 29) hx hb dX0_bodyHolds_25 (by decide) ?_
      exact ro_zret hx hb hr hS hlocks (show s_X0_bodyHolds fi un k came against = 1 from by (unfold s_X0_bodyHolds; (try dsimp only); (try rw [if_pos c_10_1]); (try rw [if_pos c_21_2]); first | done | rfl)).symm (by decide +kernel) dX0_bodyHolds_29

def f_X0_nextRound_6 (hd : Nat → Int32) (fi : Nat → Int32) (un : Nat → Int32) (came : Int32) (on : Int32) (against : Int32) (j6 : Nat) (st : Int32) : Int32 := match st with | next => (if (s_X2_bitOf on (nI j6)) = 1 then (if (hd j6) = 8 then next else (if (s_X0_bodyHolds fi un j6 came against) = 0 then next else (next ||| (1 <<< ((hd j6) &&& 31))))) else next)
def s_X0_nextRound (n : Nat) (hd : Nat → Int32) (fi : Nat → Int32) (un : Nat → Int32) (came : Int32) (on : Int32) (against : Int32) : Int32 := (match itr (f_X0_nextRound_6 hd fi un came on against) came n with | next => next)
set_option maxHeartbeats 4000000 in
set_option maxRecDepth 100000 in
theorem c_X0_nextRound (l : Launch) (D : va_G) (a0 : Nat) (a1 : Nat) (a2 : Nat) (a3 : Nat) (b1 : ClassId) (b2 : ClassId) (b3 : ClassId) (n : Nat) (may : Int32) (hd : Nat → Int32) (fi : Nat → Int32) (un : Nat → Int32) (came : Int32) (on : Int32) (against : Int32) (hn : n ≤ 10) (sz : Nat) : Met l yX0_nextRound wsX0_nextRound ({ frames := 1, cells := 0, slots := 0, locals := 23 }) (va_Pc [.ref a0, .int came, .int on, .int against] (cPre D (tB a0 a1 a2 a3 b1 b2 b3) (wB a0 a1 a2 a3 b1 b2 b3 (nI n) may hd fi un) sz)) (va_Qi (fun r (_ : Unit) => r = s_X0_nextRound n hd fi un came on against) (fun _ _ => True) (fun q => sz ≤ q)) 0 0 (fun q => sz ≤ q) := by
  refine Met.ofW (cc := cX0_nextRound) (maxL := 6) (ret := (some .int)) (by decide) rfl ?_
  intro p e s m args below meth c s₁ B hml hv
  obtain ⟨rfl, hsz, hP, hK, hD, hN⟩ := hv
  have hx := B.exec
  have hb := B.bytes
  have hr := B.returns
  have hts := atoms_spec (ws := wsX0_nextRound) B.pre
  have hown : s.vm.findClass RX0 = some m.cls := findClass_of_methodNamed B.named
  have hlocks := B.notSynchronized
  have hinX0 : ∀ w ∈ wsX00, w ∈ wsX0_nextRound := fun w h => List.mem_cons_of_mem _ (List.mem_append_right _ h)
  subst hsz
  obtain ⟨A, hAe⟩ : ∃ A : Nat → Prop, A = (fun q : Nat => s.heap.size ≤ q) := ⟨_, rfl⟩
  have hA : ∀ q : Nat, s.heap.size ≤ q → A q := fun q h => by rw [hAe]; exact h
  have hS : va_S A s.heap s.heap [] := va_S.rf
  subst hAe
  have hl := lv_entry ([.ref a0, .int came, .int on, .int against]) (n := 6) (Nat.le_of_ble_eq_true rfl)
  rw [lg_entry_eq]
  generalize (lg_sl ([.ref a0, .int came, .int on, .int against]) ++ List.replicate (6 - (lg_sl ([.ref a0, .int came, .int on, .int against])).length) Slot.unset).toArray = ls at hl ⊢
  replace hl : lv_has ls 6 [(0, .ref a0), (1, .int came), (2, .int on), (3, .int against)] := hl
  have hKe := hK.sub (tys' := []) [] rfl
  refine lv_iload_n hx hb dX0_nextRound_0 rfl (lv_at hl 1 rfl) ?_
  refine lv_istore (lv' := [(4, .int came), (0, .ref a0), (1, .int came), (2, .int on), (3, .int against)]) hx hb dX0_nextRound_1 hl (by decide) rfl (fun ls hl => ?_)
  refine lv_iconst (v := 0) hx hb dX0_nextRound_3 (by decide) ?_
  refine lv_istore (lv' := [(5, .int 0), (4, .int came), (0, .ref a0), (1, .int came), (2, .int on), (3, .int against)]) hx hb dX0_nextRound_4 hl (by decide) rfl (fun ls hl => ?_)
  have lp6_1 : ∀ (z_1 j6 : Nat), j6 + z_1 = n → ∀ (next : Int32), next = itr (f_X0_nextRound_6 hd fi un came on against) came j6 → ∀  (H : Heap) (locs : List Loc), va_P D vwCl (wB a0 a1 a2 a3 b1 b2 b3 (nI n) may hd fi un) H → va_S (fun q : Nat => s.heap.size ≤ q) s.heap H locs → ∀ ls : Array Slot, lv_has ls 6 [(0, .ref a0), (1, .int came), (2, .int on), (3, .int against), (4, .int next), (5, .int (nI j6))] → W p l e (headSpec wsX0_nextRound ({ frames := 1, cells := 0, slots := 0, locals := 23 })).room s m ([.ref a0, .int came, .int on, .int against] : List Value).toArray below meth c H locs 0 0 (MQ below (va_Qi (fun r (_ : Unit) => r = s_X0_nextRound n hd fi un came on against) (fun _ _ => True) (fun q => s.heap.size ≤ q)) ([.ref a0, .int came, .int on, .int against] : List Value).toArray s 0 0 (fun q => s.heap.size ≤ q)) (F0 m 6 ls []) := by
    intro z_1
    induction z_1 with
    | zero =>
      intro j6 hj6 next he6   H locs hP hS ls hl
      obtain rfl : n = j6 := by omega
      refine lv_iload hx hb dX0_nextRound_6 (lv_at hl 5 rfl) ?_
      refine lv_aload_n hx hb dX0_nextRound_8 rfl (lv_at hl 0 rfl) ?_
      refine va_get (D := D) (ci := 0) (v := .int (nI n)) (C := RX0) (T := TX0) (N := 5) hx hb hts hinX0 hown hK hP 0 rfl rfl 0 (by decide) (hts (.fieldLink RX0 21 "HoldUnless$RuleBook" "size" "I") (by decide +kernel)) (fun _ h9 => h9) rfl dX0_nextRound_9 ?_
      refine lv_icmp_ge (tgt := 68) hx hb dX0_nextRound_12 (by decide) (fun _ => ?_) (fun hh_3 => absurd (nI_le (a := n) (b := n) (by omega) (by omega)) hh_3)
      refine lv_iload hx hb dX0_nextRound_68 (lv_at hl 4 rfl) ?_
      exact ro_iret hx hb hr hS hlocks (show s_X0_nextRound n hd fi un came on against = next from by (unfold s_X0_nextRound; (try dsimp only); (try rw [← he6]); (try dsimp only); first | done | rfl)).symm dX0_nextRound_70
    | succ z_1 ih6 =>
      intro j6 hj6 next he6   H locs hP hS ls hl
      refine lv_iload hx hb dX0_nextRound_6 (lv_at hl 5 rfl) ?_
      refine lv_aload_n hx hb dX0_nextRound_8 rfl (lv_at hl 0 rfl) ?_
      refine va_get (D := D) (ci := 0) (v := .int (nI n)) (C := RX0) (T := TX0) (N := 5) hx hb hts hinX0 hown hK hP 0 rfl rfl 0 (by decide) (hts (.fieldLink RX0 21 "HoldUnless$RuleBook" "size" "I") (by decide +kernel)) (fun _ h9 => h9) rfl dX0_nextRound_9 ?_
      refine lv_icmp_ge (tgt := 68) hx hb dX0_nextRound_12 (by decide) (fun hh_5 => absurd hh_5 (nI_ge (a := j6) (b := n) (by omega) (by omega))) (fun _ => ?_)
      refine lv_iload_n hx hb dX0_nextRound_15 rfl (lv_at hl 2 rfl) ?_
      refine lv_iload hx hb dX0_nextRound_16 (lv_at hl 5 rfl) ?_
      refine ro_i (D := D) (va_runSN (As := [.int on, .int (nI j6)]) (rest := []) ⟨hx, hb, hml, hown, hts⟩ (c_X2_bitOf l D on (nI j6)  _) ⟨(va_cnB 2 hts gX0_nextRound_X2_bitOf_n32 rfl rfl rfl (hN.nw 9 rfl) (hts (.initialized RX2) (by decide +kernel)) (by decide +kernel) ⟨Nat.le_of_ble_eq_true rfl, Nat.le_of_ble_eq_true rfl⟩), hts (.static yX2_bitOf) (by decide +kernel), trivial⟩ ⟨cPre.blind, cPre.mk vP0 hKe vD0 hN⟩ rfl rfl hl.1 rfl (lv_room (Nat.le_of_ble_eq_true rfl)) dX0_nextRound_18 ⟨Nat.zero_le _, Nat.zero_le _⟩) hS hA (fun H locs hkp0 hS => ?_)
      replace hP := hkp0 _ hP
      refine lv_iconst (v := 1) hx hb dX0_nextRound_21 (by decide) ?_
      refine lv_icmp_ne (tgt := 62) hx hb dX0_nextRound_22 (by decide) (fun c_22_6 => ?_) (fun c_22_6 => ?_)
      · refine lv_iinc (v := nI (j6 + 1)) (lv' := [(5, .int (nI (j6 + 1))), (0, .ref a0), (1, .int came), (2, .int on), (3, .int against), (4, .int next)]) hx hb dX0_nextRound_62 hl (k := 5) rfl (inc_nI j6) (by decide) rfl (fun ls hl => ?_)
        refine lv_goto (tgt := 6) hx hb dX0_nextRound_65 (by decide) ?_
        exact ih6 (j6 + 1) (by omega) next (itr_step he6 (by (unfold f_X0_nextRound_6; (try dsimp only); (try rw [if_neg c_22_6]); first | done | rfl)))   _ _ hP hS _ (lv_sub hl [1, 2, 3, 4, 5, 0] rfl)
      · refine lv_aload_n hx hb dX0_nextRound_25 rfl (lv_at hl 0 rfl) ?_
        refine va_get (D := D) (ci := 0) (v := .ref a1) (C := RX0) (T := TX0) (N := 5) hx hb hts hinX0 hown hK hP 0 rfl rfl 2 (by decide) (hts (.fieldLink RX0 9 "HoldUnless$RuleBook" "head" "[I") (by decide +kernel)) (fun _ h9 => h9) rfl dX0_nextRound_26 ?_
        refine lv_iload hx hb dX0_nextRound_29 (lv_at hl 5 rfl) ?_
        refine wa_ild hx hb hK hP 1 0 rfl rfl j6 rfl (by omega) (by decide) dX0_nextRound_31 ?_
        refine lv_bipush (v := 8) hx hb dX0_nextRound_32 (by decide) ?_
        refine lv_icmp_eq (tgt := 62) hx hb dX0_nextRound_34 (by decide) (fun c_34_7 => ?_) (fun c_34_7 => ?_)
        · refine lv_iinc (v := nI (j6 + 1)) (lv' := [(5, .int (nI (j6 + 1))), (0, .ref a0), (1, .int came), (2, .int on), (3, .int against), (4, .int next)]) hx hb dX0_nextRound_62 hl (k := 5) rfl (inc_nI j6) (by decide) rfl (fun ls hl => ?_)
          refine lv_goto (tgt := 6) hx hb dX0_nextRound_65 (by decide) ?_
          exact ih6 (j6 + 1) (by omega) next (itr_step he6 (by (unfold f_X0_nextRound_6; (try dsimp only); (try rw [if_pos c_22_6]); (try rw [if_pos c_34_7]); first | done | rfl)))   _ _ hP hS _ (lv_sub hl [1, 2, 3, 4, 5, 0] rfl)
        · refine lv_aload_n hx hb dX0_nextRound_37 rfl (lv_at hl 0 rfl) ?_
          refine lv_iload hx hb dX0_nextRound_38 (lv_at hl 5 rfl) ?_
          refine lv_iload_n hx hb dX0_nextRound_40 rfl (lv_at hl 1 rfl) ?_
          refine lv_iload_n hx hb dX0_nextRound_41 rfl (lv_at hl 3 rfl) ?_
          refine ro_i (D := D) (va_runV (As := [.int (nI j6), .int came, .int against]) (rest := []) ⟨hx, hb, hml, hown, hts⟩ (c_X0_bodyHolds l D a0 a1 a2 a3 b1 b2 b3 n may hd fi un j6 came against (by first | assumption | omega) _) (cwV 3 hts gX0_nextRound_X0_bodyHolds rfl rfl rfl (by decide +kernel) ⟨Nat.le_of_ble_eq_true rfl, Nat.le_of_ble_eq_true rfl⟩) ⟨cPre.blind, va_recv hK hP (ci := 0) (q0 := 0) rfl rfl, cPre.mk hP hK hD hN⟩ rfl rfl hl.1 rfl (lv_room (Nat.le_of_ble_eq_true rfl)) dX0_nextRound_42 ⟨Nat.zero_le _, Nat.zero_le _⟩) hS hA (fun H locs hkp0 hS => ?_)
          replace hP := hkp0 _ hP
          refine lv_if_eq (tgt := 62) hx hb dX0_nextRound_45 (by decide) (fun c_45_8 => ?_) (fun c_45_8 => ?_)
          · refine lv_iinc (v := nI (j6 + 1)) (lv' := [(5, .int (nI (j6 + 1))), (0, .ref a0), (1, .int came), (2, .int on), (3, .int against), (4, .int next)]) hx hb dX0_nextRound_62 hl (k := 5) rfl (inc_nI j6) (by decide) rfl (fun ls hl => ?_)
            refine lv_goto (tgt := 6) hx hb dX0_nextRound_65 (by decide) ?_
            exact ih6 (j6 + 1) (by omega) next (itr_step he6 (by (unfold f_X0_nextRound_6; (try dsimp only); (try rw [if_pos c_22_6]); (try rw [if_neg c_34_7]); (try rw [if_pos c_45_8]); first | done | rfl)))   _ _ hP hS _ (lv_sub hl [1, 2, 3, 4, 5, 0] rfl)
          · refine lv_iload hx hb dX0_nextRound_48 (lv_at hl 4 rfl) ?_
            refine lv_iconst (v := 1) hx hb dX0_nextRound_50 (by decide) ?_
            refine lv_aload_n hx hb dX0_nextRound_51 rfl (lv_at hl 0 rfl) ?_
            refine va_get (D := D) (ci := 0) (v := .ref a1) (C := RX0) (T := TX0) (N := 5) hx hb hts hinX0 hown hK hP 0 rfl rfl 2 (by decide) (hts (.fieldLink RX0 9 "HoldUnless$RuleBook" "head" "[I") (by decide +kernel)) (fun _ h9 => h9) rfl dX0_nextRound_52 ?_
            refine lv_iload hx hb dX0_nextRound_55 (lv_at hl 5 rfl) ?_
            refine wa_ild hx hb hK hP 1 0 rfl rfl j6 rfl (by omega) (by decide) dX0_nextRound_57 ?_
            refine lv_ishl hx hb dX0_nextRound_58 ?_
            refine lv_ior hx hb dX0_nextRound_59 ?_
            refine lv_istore (lv' := [(4, .int (next ||| (1 <<< ((hd j6) &&& 31)))), (0, .ref a0), (1, .int came), (2, .int on), (3, .int against), (5, .int (nI j6))]) hx hb dX0_nextRound_60 hl (by decide) rfl (fun ls hl => ?_)
            refine lv_iinc (v := nI (j6 + 1)) (lv' := [(5, .int (nI (j6 + 1))), (4, .int (next ||| (1 <<< ((hd j6) &&& 31)))), (0, .ref a0), (1, .int came), (2, .int on), (3, .int against)]) hx hb dX0_nextRound_62 hl (k := 5) rfl (inc_nI j6) (by decide) rfl (fun ls hl => ?_)
            refine lv_goto (tgt := 6) hx hb dX0_nextRound_65 (by decide) ?_
            exact ih6 (j6 + 1) (by omega) (next ||| (1 <<< ((hd j6) &&& 31))) (itr_step he6 (by (unfold f_X0_nextRound_6; (try dsimp only); (try rw [if_pos c_22_6]); (try rw [if_neg c_34_7]); (try rw [if_neg c_45_8]); first | done | rfl)))   _ _ hP hS _ (lv_sub hl [2, 3, 4, 5, 1, 0] rfl)
  exact lp6_1 n 0 (by omega) came (itr_zero _ _).symm   _ _ hP hS _ (lv_sub hl [2, 3, 4, 5, 1, 0] rfl)

def f_X0_comesOf_6 (n : Nat) (hd : Nat → Int32) (fi : Nat → Int32) (un : Nat → Int32) (on : Int32) (against : Int32) (j6 : Nat) (st : Int32) : Int32 ⊕ (Int32) := match st with | came => (if (s_X0_nextRound n hd fi un came on against) = came then (.inl came) else (.inr (s_X0_nextRound n hd fi un came on against)))
def s_X0_comesOf (n : Nat) (hd : Nat → Int32) (fi : Nat → Int32) (un : Nat → Int32) (start : Int32) (on : Int32) (against : Int32) : Int32 := (onE (itE (f_X0_comesOf_6 n hd fi un on against) start 8) (fun st => match st with | came => came))
set_option maxHeartbeats 4000000 in
set_option maxRecDepth 100000 in
theorem c_X0_comesOf (l : Launch) (D : va_G) (a0 : Nat) (a1 : Nat) (a2 : Nat) (a3 : Nat) (b1 : ClassId) (b2 : ClassId) (b3 : ClassId) (n : Nat) (may : Int32) (hd : Nat → Int32) (fi : Nat → Int32) (un : Nat → Int32) (start : Int32) (on : Int32) (against : Int32) (hn : n ≤ 10) (sz : Nat) : Met l yX0_comesOf wsX0_comesOf ({ frames := 2, cells := 0, slots := 0, locals := 48 }) (va_Pc [.ref a0, .int start, .int on, .int against] (cPre D (tB a0 a1 a2 a3 b1 b2 b3) (wB a0 a1 a2 a3 b1 b2 b3 (nI n) may hd fi un) sz)) (va_Qi (fun r (_ : Unit) => r = s_X0_comesOf n hd fi un start on against) (fun _ _ => True) (fun q => sz ≤ q)) 0 0 (fun q => sz ≤ q) := by
  refine Met.ofW (cc := cX0_comesOf) (maxL := 7) (ret := (some .int)) (by decide) rfl ?_
  intro p e s m args below meth c s₁ B hml hv
  obtain ⟨rfl, hsz, hP, hK, hD, hN⟩ := hv
  have hx := B.exec
  have hb := B.bytes
  have hr := B.returns
  have hts := atoms_spec (ws := wsX0_comesOf) B.pre
  have hown : s.vm.findClass RX0 = some m.cls := findClass_of_methodNamed B.named
  have hlocks := B.notSynchronized
  subst hsz
  obtain ⟨A, hAe⟩ : ∃ A : Nat → Prop, A = (fun q : Nat => s.heap.size ≤ q) := ⟨_, rfl⟩
  have hA : ∀ q : Nat, s.heap.size ≤ q → A q := fun q h => by rw [hAe]; exact h
  have hS : va_S A s.heap s.heap [] := va_S.rf
  subst hAe
  have hl := lv_entry ([.ref a0, .int start, .int on, .int against]) (n := 7) (Nat.le_of_ble_eq_true rfl)
  rw [lg_entry_eq]
  generalize (lg_sl ([.ref a0, .int start, .int on, .int against]) ++ List.replicate (7 - (lg_sl ([.ref a0, .int start, .int on, .int against])).length) Slot.unset).toArray = ls at hl ⊢
  replace hl : lv_has ls 7 [(0, .ref a0), (1, .int start), (2, .int on), (3, .int against)] := hl
  have hKe := hK.sub (tys' := []) [] rfl
  refine lv_iload_n hx hb dX0_comesOf_0 rfl (lv_at hl 1 rfl) ?_
  refine lv_istore (lv' := [(4, .int start), (0, .ref a0), (1, .int start), (2, .int on), (3, .int against)]) hx hb dX0_comesOf_1 hl (by decide) rfl (fun ls hl => ?_)
  refine lv_iconst (v := 0) hx hb dX0_comesOf_3 (by decide) ?_
  refine lv_istore (lv' := [(5, .int 0), (4, .int start), (0, .ref a0), (1, .int start), (2, .int on), (3, .int against)]) hx hb dX0_comesOf_4 hl (by decide) rfl (fun ls hl => ?_)
  have lp6_1 : ∀ (z_1 j6 : Nat), j6 + z_1 = 8 → ∀ (came : Int32), itE (f_X0_comesOf_6 n hd fi un on against) start j6 = .inr came → ∀  (H : Heap) (locs : List Loc), va_P D vwCl (wB a0 a1 a2 a3 b1 b2 b3 (nI n) may hd fi un) H → va_S (fun q : Nat => s.heap.size ≤ q) s.heap H locs → ∀ ls : Array Slot, lv_has ls 7 [(0, .ref a0), (1, .int start), (2, .int on), (3, .int against), (4, .int came), (5, .int (nI j6))] → W p l e (headSpec wsX0_comesOf ({ frames := 2, cells := 0, slots := 0, locals := 48 })).room s m ([.ref a0, .int start, .int on, .int against] : List Value).toArray below meth c H locs 0 0 (MQ below (va_Qi (fun r (_ : Unit) => r = s_X0_comesOf n hd fi un start on against) (fun _ _ => True) (fun q => s.heap.size ≤ q)) ([.ref a0, .int start, .int on, .int against] : List Value).toArray s 0 0 (fun q => s.heap.size ≤ q)) (F0 m 6 ls []) := by
    intro z_1
    induction z_1 with
    | zero =>
      intro j6 hj6 came he6   H locs hP hS ls hl
      obtain rfl : 8 = j6 := by omega
      refine lv_iload hx hb dX0_comesOf_6 (lv_at hl 5 rfl) ?_
      refine lv_bipush (v := 8) hx hb dX0_comesOf_8 (by decide) ?_
      refine lv_icmp_ge (tgt := 43) hx hb dX0_comesOf_10 (by decide) (fun _ => ?_) (fun hh_3 => absurd (nI_le (a := 8) (b := 8) (by omega) (by omega)) hh_3)
      refine lv_iload hx hb dX0_comesOf_43 (lv_at hl 4 rfl) ?_
      exact ro_iret hx hb hr hS hlocks (show s_X0_comesOf n hd fi un start on against = came from by (unfold s_X0_comesOf; (try dsimp only); (try rw [he6]); (try dsimp only [onE]); first | done | rfl)).symm dX0_comesOf_45
    | succ z_1 ih6 =>
      intro j6 hj6 came he6   H locs hP hS ls hl
      refine lv_iload hx hb dX0_comesOf_6 (lv_at hl 5 rfl) ?_
      refine lv_bipush (v := 8) hx hb dX0_comesOf_8 (by decide) ?_
      refine lv_icmp_ge (tgt := 43) hx hb dX0_comesOf_10 (by decide) (fun hh_5 => absurd hh_5 (nI_ge (a := j6) (b := 8) (by omega) (by omega))) (fun _ => ?_)
      refine lv_aload_n hx hb dX0_comesOf_13 rfl (lv_at hl 0 rfl) ?_
      refine lv_iload hx hb dX0_comesOf_14 (lv_at hl 4 rfl) ?_
      refine lv_iload_n hx hb dX0_comesOf_16 rfl (lv_at hl 2 rfl) ?_
      refine lv_iload_n hx hb dX0_comesOf_17 rfl (lv_at hl 3 rfl) ?_
      refine ro_i (D := D) (va_runV (As := [.int came, .int on, .int against]) (rest := []) ⟨hx, hb, hml, hown, hts⟩ (c_X0_nextRound l D a0 a1 a2 a3 b1 b2 b3 n may hd fi un came on against (by first | assumption | omega) _) (cwV 3 hts gX0_comesOf_X0_nextRound rfl rfl rfl (by decide +kernel) ⟨Nat.le_of_ble_eq_true rfl, Nat.le_of_ble_eq_true rfl⟩) ⟨cPre.blind, va_recv hK hP (ci := 0) (q0 := 0) rfl rfl, cPre.mk hP hK hD hN⟩ rfl rfl hl.1 rfl (lv_room (Nat.le_of_ble_eq_true rfl)) dX0_comesOf_18 ⟨Nat.zero_le _, Nat.zero_le _⟩) hS hA (fun H locs hkp0 hS => ?_)
      replace hP := hkp0 _ hP
      refine lv_istore (lv' := [(6, .int (s_X0_nextRound n hd fi un came on against)), (0, .ref a0), (1, .int start), (2, .int on), (3, .int against), (4, .int came), (5, .int (nI j6))]) hx hb dX0_comesOf_21 hl (by decide) rfl (fun ls hl => ?_)
      refine lv_iload hx hb dX0_comesOf_23 (lv_at hl 0 rfl) ?_
      refine lv_iload hx hb dX0_comesOf_25 (lv_at hl 5 rfl) ?_
      refine lv_icmp_ne (tgt := 33) hx hb dX0_comesOf_27 (by decide) (fun c_27_6 => ?_) (fun c_27_6 => ?_)
      · refine lv_iload hx hb dX0_comesOf_33 (lv_at hl 0 rfl) ?_
        refine lv_istore (lv' := [(4, .int (s_X0_nextRound n hd fi un came on against)), (6, .int (s_X0_nextRound n hd fi un came on against)), (0, .ref a0), (1, .int start), (2, .int on), (3, .int against), (5, .int (nI j6))]) hx hb dX0_comesOf_35 hl (by decide) rfl (fun ls hl => ?_)
        refine lv_iinc (v := nI (j6 + 1)) (lv' := [(5, .int (nI (j6 + 1))), (4, .int (s_X0_nextRound n hd fi un came on against)), (6, .int (s_X0_nextRound n hd fi un came on against)), (0, .ref a0), (1, .int start), (2, .int on), (3, .int against)]) hx hb dX0_comesOf_37 hl (k := 6) rfl (inc_nI j6) (by decide) rfl (fun ls hl => ?_)
        refine lv_goto (tgt := 6) hx hb dX0_comesOf_40 (by decide) ?_
        exact ih6 (j6 + 1) (by omega) (s_X0_nextRound n hd fi un came on against) (itE_succ he6 (by (unfold f_X0_comesOf_6; (try dsimp only); (try rw [if_neg c_27_6]); first | done | rfl)))   _ _ hP hS _ (lv_sub hl [3, 4, 5, 6, 1, 0] rfl)
      · refine lv_goto (tgt := 43) hx hb dX0_comesOf_30 (by decide) ?_
        refine lv_iload hx hb dX0_comesOf_43 (lv_at hl 5 rfl) ?_
        have hs_7 : itE (f_X0_comesOf_6 n hd fi un on against) start (j6 + 1) = (.inl came) := itE_succ he6 (by (unfold f_X0_comesOf_6; (try dsimp only); (try rw [if_pos c_27_6]); first | done | rfl))
        have hn_8 := itE_stop hs_7 8 (by omega)
        exact ro_iret hx hb hr hS hlocks (show s_X0_comesOf n hd fi un start on against = came from by (unfold s_X0_comesOf; (try dsimp only); (try rw [hn_8]); (try dsimp only [onE]); first | done | rfl)).symm dX0_comesOf_45
  exact lp6_1 8 0 (by omega) start (itE_zero _ _)   _ _ hP hS _ (lv_sub hl [2, 3, 4, 5, 1, 0] rfl)

def f_X0_brokenBy_5 (hd : Nat → Int32) (fi : Nat → Int32) (un : Nat → Int32) (set : Int32) (on : Int32) (j5 : Nat) (st : Int32) : Int32 := match st with | broken => (if (s_X2_bitOf on (nI j5)) = 1 then (if (s_X2_bitOf set (hd j5)) = 0 then (if (s_X0_bodyHolds fi un j5 set set) = 0 then broken else (broken ||| (1 <<< ((nI j5) &&& 31)))) else broken) else broken)
def s_X0_brokenBy (n : Nat) (hd : Nat → Int32) (fi : Nat → Int32) (un : Nat → Int32) (set : Int32) (on : Int32) : Int32 := (match itr (f_X0_brokenBy_5 hd fi un set on) 0 n with | broken => broken)
set_option maxHeartbeats 4000000 in
set_option maxRecDepth 100000 in
theorem c_X0_brokenBy (l : Launch) (D : va_G) (a0 : Nat) (a1 : Nat) (a2 : Nat) (a3 : Nat) (b1 : ClassId) (b2 : ClassId) (b3 : ClassId) (n : Nat) (may : Int32) (hd : Nat → Int32) (fi : Nat → Int32) (un : Nat → Int32) (set : Int32) (on : Int32) (hn : n ≤ 10) (sz : Nat) : Met l yX0_brokenBy wsX0_brokenBy ({ frames := 1, cells := 0, slots := 0, locals := 23 }) (va_Pc [.ref a0, .int set, .int on] (cPre D (tB a0 a1 a2 a3 b1 b2 b3) (wB a0 a1 a2 a3 b1 b2 b3 (nI n) may hd fi un) sz)) (va_Qi (fun r (_ : Unit) => r = s_X0_brokenBy n hd fi un set on) (fun _ _ => True) (fun q => sz ≤ q)) 0 0 (fun q => sz ≤ q) := by
  refine Met.ofW (cc := cX0_brokenBy) (maxL := 5) (ret := (some .int)) (by decide) rfl ?_
  intro p e s m args below meth c s₁ B hml hv
  obtain ⟨rfl, hsz, hP, hK, hD, hN⟩ := hv
  have hx := B.exec
  have hb := B.bytes
  have hr := B.returns
  have hts := atoms_spec (ws := wsX0_brokenBy) B.pre
  have hown : s.vm.findClass RX0 = some m.cls := findClass_of_methodNamed B.named
  have hlocks := B.notSynchronized
  have hinX0 : ∀ w ∈ wsX00, w ∈ wsX0_brokenBy := fun w h => List.mem_cons_of_mem _ (List.mem_append_right _ h)
  subst hsz
  obtain ⟨A, hAe⟩ : ∃ A : Nat → Prop, A = (fun q : Nat => s.heap.size ≤ q) := ⟨_, rfl⟩
  have hA : ∀ q : Nat, s.heap.size ≤ q → A q := fun q h => by rw [hAe]; exact h
  have hS : va_S A s.heap s.heap [] := va_S.rf
  subst hAe
  have hl := lv_entry ([.ref a0, .int set, .int on]) (n := 5) (Nat.le_of_ble_eq_true rfl)
  rw [lg_entry_eq]
  generalize (lg_sl ([.ref a0, .int set, .int on]) ++ List.replicate (5 - (lg_sl ([.ref a0, .int set, .int on])).length) Slot.unset).toArray = ls at hl ⊢
  replace hl : lv_has ls 5 [(0, .ref a0), (1, .int set), (2, .int on)] := hl
  have hKe := hK.sub (tys' := []) [] rfl
  refine lv_iconst (v := 0) hx hb dX0_brokenBy_0 (by decide) ?_
  refine lv_istore_n (lv' := [(3, .int 0), (0, .ref a0), (1, .int set), (2, .int on)]) hx hb dX0_brokenBy_1 rfl hl (by decide) rfl (fun ls hl => ?_)
  refine lv_iconst (v := 0) hx hb dX0_brokenBy_2 (by decide) ?_
  refine lv_istore (lv' := [(4, .int 0), (3, .int 0), (0, .ref a0), (1, .int set), (2, .int on)]) hx hb dX0_brokenBy_3 hl (by decide) rfl (fun ls hl => ?_)
  have lp5_1 : ∀ (z_1 j5 : Nat), j5 + z_1 = n → ∀ (broken : Int32), broken = itr (f_X0_brokenBy_5 hd fi un set on) 0 j5 → ∀  (H : Heap) (locs : List Loc), va_P D vwCl (wB a0 a1 a2 a3 b1 b2 b3 (nI n) may hd fi un) H → va_S (fun q : Nat => s.heap.size ≤ q) s.heap H locs → ∀ ls : Array Slot, lv_has ls 5 [(0, .ref a0), (1, .int set), (2, .int on), (3, .int broken), (4, .int (nI j5))] → W p l e (headSpec wsX0_brokenBy ({ frames := 1, cells := 0, slots := 0, locals := 23 })).room s m ([.ref a0, .int set, .int on] : List Value).toArray below meth c H locs 0 0 (MQ below (va_Qi (fun r (_ : Unit) => r = s_X0_brokenBy n hd fi un set on) (fun _ _ => True) (fun q => s.heap.size ≤ q)) ([.ref a0, .int set, .int on] : List Value).toArray s 0 0 (fun q => s.heap.size ≤ q)) (F0 m 5 ls []) := by
    intro z_1
    induction z_1 with
    | zero =>
      intro j5 hj5 broken he5   H locs hP hS ls hl
      obtain rfl : n = j5 := by omega
      refine lv_iload hx hb dX0_brokenBy_5 (lv_at hl 4 rfl) ?_
      refine lv_aload_n hx hb dX0_brokenBy_7 rfl (lv_at hl 0 rfl) ?_
      refine va_get (D := D) (ci := 0) (v := .int (nI n)) (C := RX0) (T := TX0) (N := 5) hx hb hts hinX0 hown hK hP 0 rfl rfl 0 (by decide) (hts (.fieldLink RX0 21 "HoldUnless$RuleBook" "size" "I") (by decide +kernel)) (fun _ h9 => h9) rfl dX0_brokenBy_8 ?_
      refine lv_icmp_ge (tgt := 62) hx hb dX0_brokenBy_11 (by decide) (fun _ => ?_) (fun hh_3 => absurd (nI_le (a := n) (b := n) (by omega) (by omega)) hh_3)
      refine lv_iload_n hx hb dX0_brokenBy_62 rfl (lv_at hl 3 rfl) ?_
      exact ro_iret hx hb hr hS hlocks (show s_X0_brokenBy n hd fi un set on = broken from by (unfold s_X0_brokenBy; (try dsimp only); (try rw [← he5]); (try dsimp only); first | done | rfl)).symm dX0_brokenBy_63
    | succ z_1 ih5 =>
      intro j5 hj5 broken he5   H locs hP hS ls hl
      refine lv_iload hx hb dX0_brokenBy_5 (lv_at hl 4 rfl) ?_
      refine lv_aload_n hx hb dX0_brokenBy_7 rfl (lv_at hl 0 rfl) ?_
      refine va_get (D := D) (ci := 0) (v := .int (nI n)) (C := RX0) (T := TX0) (N := 5) hx hb hts hinX0 hown hK hP 0 rfl rfl 0 (by decide) (hts (.fieldLink RX0 21 "HoldUnless$RuleBook" "size" "I") (by decide +kernel)) (fun _ h9 => h9) rfl dX0_brokenBy_8 ?_
      refine lv_icmp_ge (tgt := 62) hx hb dX0_brokenBy_11 (by decide) (fun hh_5 => absurd hh_5 (nI_ge (a := j5) (b := n) (by omega) (by omega))) (fun _ => ?_)
      refine lv_iload_n hx hb dX0_brokenBy_14 rfl (lv_at hl 2 rfl) ?_
      refine lv_iload hx hb dX0_brokenBy_15 (lv_at hl 4 rfl) ?_
      refine ro_i (D := D) (va_runSN (As := [.int on, .int (nI j5)]) (rest := []) ⟨hx, hb, hml, hown, hts⟩ (c_X2_bitOf l D on (nI j5)  _) ⟨(va_cnB 2 hts gX0_brokenBy_X2_bitOf_n32 rfl rfl rfl (hN.nw 9 rfl) (hts (.initialized RX2) (by decide +kernel)) (by decide +kernel) ⟨Nat.le_of_ble_eq_true rfl, Nat.le_of_ble_eq_true rfl⟩), hts (.static yX2_bitOf) (by decide +kernel), trivial⟩ ⟨cPre.blind, cPre.mk vP0 hKe vD0 hN⟩ rfl rfl hl.1 rfl (lv_room (Nat.le_of_ble_eq_true rfl)) dX0_brokenBy_17 ⟨Nat.zero_le _, Nat.zero_le _⟩) hS hA (fun H locs hkp0 hS => ?_)
      replace hP := hkp0 _ hP
      refine lv_iconst (v := 1) hx hb dX0_brokenBy_20 (by decide) ?_
      refine lv_icmp_ne (tgt := 56) hx hb dX0_brokenBy_21 (by decide) (fun c_21_6 => ?_) (fun c_21_6 => ?_)
      · refine lv_iinc (v := nI (j5 + 1)) (lv' := [(4, .int (nI (j5 + 1))), (0, .ref a0), (1, .int set), (2, .int on), (3, .int broken)]) hx hb dX0_brokenBy_56 hl (k := 4) rfl (inc_nI j5) (by decide) rfl (fun ls hl => ?_)
        refine lv_goto (tgt := 5) hx hb dX0_brokenBy_59 (by decide) ?_
        exact ih5 (j5 + 1) (by omega) broken (itr_step he5 (by (unfold f_X0_brokenBy_5; (try dsimp only); (try rw [if_neg c_21_6]); first | done | rfl)))   _ _ hP hS _ (lv_sub hl [1, 2, 3, 4, 0] rfl)
      · refine lv_iload_n hx hb dX0_brokenBy_24 rfl (lv_at hl 1 rfl) ?_
        refine lv_aload_n hx hb dX0_brokenBy_25 rfl (lv_at hl 0 rfl) ?_
        refine va_get (D := D) (ci := 0) (v := .ref a1) (C := RX0) (T := TX0) (N := 5) hx hb hts hinX0 hown hK hP 0 rfl rfl 2 (by decide) (hts (.fieldLink RX0 9 "HoldUnless$RuleBook" "head" "[I") (by decide +kernel)) (fun _ h9 => h9) rfl dX0_brokenBy_26 ?_
        refine lv_iload hx hb dX0_brokenBy_29 (lv_at hl 4 rfl) ?_
        refine wa_ild hx hb hK hP 1 0 rfl rfl j5 rfl (by omega) (by decide) dX0_brokenBy_31 ?_
        refine ro_i (D := D) (va_runSN (As := [.int set, .int (hd j5)]) (rest := []) ⟨hx, hb, hml, hown, hts⟩ (c_X2_bitOf l D set (hd j5)  _) ⟨(va_cnB 2 hts gX0_brokenBy_X2_bitOf_n32 rfl rfl rfl (hN.nw 9 rfl) (hts (.initialized RX2) (by decide +kernel)) (by decide +kernel) ⟨Nat.le_of_ble_eq_true rfl, Nat.le_of_ble_eq_true rfl⟩), hts (.static yX2_bitOf) (by decide +kernel), trivial⟩ ⟨cPre.blind, cPre.mk vP0 hKe vD0 hN⟩ rfl rfl hl.1 rfl (lv_room (Nat.le_of_ble_eq_true rfl)) dX0_brokenBy_32 ⟨Nat.zero_le _, Nat.zero_le _⟩) hS hA (fun H locs hkp0 hS => ?_)
        replace hP := hkp0 _ hP
        refine lv_if_ne (tgt := 56) hx hb dX0_brokenBy_35 (by decide) (fun c_35_7 => ?_) (fun c_35_7 => ?_)
        · refine lv_iinc (v := nI (j5 + 1)) (lv' := [(4, .int (nI (j5 + 1))), (0, .ref a0), (1, .int set), (2, .int on), (3, .int broken)]) hx hb dX0_brokenBy_56 hl (k := 4) rfl (inc_nI j5) (by decide) rfl (fun ls hl => ?_)
          refine lv_goto (tgt := 5) hx hb dX0_brokenBy_59 (by decide) ?_
          exact ih5 (j5 + 1) (by omega) broken (itr_step he5 (by (unfold f_X0_brokenBy_5; (try dsimp only); (try rw [if_pos c_21_6]); (try rw [if_neg c_35_7]); first | done | rfl)))   _ _ hP hS _ (lv_sub hl [1, 2, 3, 4, 0] rfl)
        · refine lv_aload_n hx hb dX0_brokenBy_38 rfl (lv_at hl 0 rfl) ?_
          refine lv_iload hx hb dX0_brokenBy_39 (lv_at hl 4 rfl) ?_
          refine lv_iload_n hx hb dX0_brokenBy_41 rfl (lv_at hl 1 rfl) ?_
          refine lv_iload_n hx hb dX0_brokenBy_42 rfl (lv_at hl 1 rfl) ?_
          refine ro_i (D := D) (va_runV (As := [.int (nI j5), .int set, .int set]) (rest := []) ⟨hx, hb, hml, hown, hts⟩ (c_X0_bodyHolds l D a0 a1 a2 a3 b1 b2 b3 n may hd fi un j5 set set (by first | assumption | omega) _) (cwV 3 hts gX0_brokenBy_X0_bodyHolds rfl rfl rfl (by decide +kernel) ⟨Nat.le_of_ble_eq_true rfl, Nat.le_of_ble_eq_true rfl⟩) ⟨cPre.blind, va_recv hK hP (ci := 0) (q0 := 0) rfl rfl, cPre.mk hP hK hD hN⟩ rfl rfl hl.1 rfl (lv_room (Nat.le_of_ble_eq_true rfl)) dX0_brokenBy_43 ⟨Nat.zero_le _, Nat.zero_le _⟩) hS hA (fun H locs hkp0 hS => ?_)
          replace hP := hkp0 _ hP
          refine lv_if_eq (tgt := 56) hx hb dX0_brokenBy_46 (by decide) (fun c_46_8 => ?_) (fun c_46_8 => ?_)
          · refine lv_iinc (v := nI (j5 + 1)) (lv' := [(4, .int (nI (j5 + 1))), (0, .ref a0), (1, .int set), (2, .int on), (3, .int broken)]) hx hb dX0_brokenBy_56 hl (k := 4) rfl (inc_nI j5) (by decide) rfl (fun ls hl => ?_)
            refine lv_goto (tgt := 5) hx hb dX0_brokenBy_59 (by decide) ?_
            exact ih5 (j5 + 1) (by omega) broken (itr_step he5 (by (unfold f_X0_brokenBy_5; (try dsimp only); (try rw [if_pos c_21_6]); (try rw [if_pos c_35_7]); (try rw [if_pos c_46_8]); first | done | rfl)))   _ _ hP hS _ (lv_sub hl [1, 2, 3, 4, 0] rfl)
          · refine lv_iload_n hx hb dX0_brokenBy_49 rfl (lv_at hl 3 rfl) ?_
            refine lv_iconst (v := 1) hx hb dX0_brokenBy_50 (by decide) ?_
            refine lv_iload hx hb dX0_brokenBy_51 (lv_at hl 4 rfl) ?_
            refine lv_ishl hx hb dX0_brokenBy_53 ?_
            refine lv_ior hx hb dX0_brokenBy_54 ?_
            refine lv_istore_n (lv' := [(3, .int (broken ||| (1 <<< ((nI j5) &&& 31)))), (0, .ref a0), (1, .int set), (2, .int on), (4, .int (nI j5))]) hx hb dX0_brokenBy_55 rfl hl (by decide) rfl (fun ls hl => ?_)
            refine lv_iinc (v := nI (j5 + 1)) (lv' := [(4, .int (nI (j5 + 1))), (3, .int (broken ||| (1 <<< ((nI j5) &&& 31)))), (0, .ref a0), (1, .int set), (2, .int on)]) hx hb dX0_brokenBy_56 hl (k := 4) rfl (inc_nI j5) (by decide) rfl (fun ls hl => ?_)
            refine lv_goto (tgt := 5) hx hb dX0_brokenBy_59 (by decide) ?_
            exact ih5 (j5 + 1) (by omega) (broken ||| (1 <<< ((nI j5) &&& 31))) (itr_step he5 (by (unfold f_X0_brokenBy_5; (try dsimp only); (try rw [if_pos c_21_6]); (try rw [if_pos c_35_7]); (try rw [if_neg c_46_8]); first | done | rfl)))   _ _ hP hS _ (lv_sub hl [2, 3, 4, 1, 0] rfl)
  exact lp5_1 n 0 (by omega) 0 (itr_zero _ _).symm   _ _ hP hS _ (lv_sub hl [2, 3, 4, 1, 0] rfl)

def s_X0_upholds (n : Nat) (may : Int32) (hd : Nat → Int32) (fi : Nat → Int32) (un : Nat → Int32) (set : Int32) (on : Int32) (asd : Int32) : Int32 := (if (asd &&& (set ^^^ (-1))) = 0 then (if (s_X0_brokenBy n hd fi un set on) = 0 then (if (s_X0_comesOf n hd fi un (asd ||| (may &&& set)) on set) = set then 1 else 0) else 0) else 0)
set_option maxHeartbeats 4000000 in
set_option maxRecDepth 100000 in
theorem c_X0_upholds (l : Launch) (D : va_G) (a0 : Nat) (a1 : Nat) (a2 : Nat) (a3 : Nat) (b1 : ClassId) (b2 : ClassId) (b3 : ClassId) (n : Nat) (may : Int32) (hd : Nat → Int32) (fi : Nat → Int32) (un : Nat → Int32) (set : Int32) (on : Int32) (asd : Int32) (hn : n ≤ 10) (sz : Nat) : Met l yX0_upholds wsX0_upholds ({ frames := 3, cells := 0, slots := 0, locals := 74 }) (va_Pc [.ref a0, .int set, .int on, .int asd] (cPre D (tB a0 a1 a2 a3 b1 b2 b3) (wB a0 a1 a2 a3 b1 b2 b3 (nI n) may hd fi un) sz)) (va_Qi (fun r (_ : Unit) => r = s_X0_upholds n may hd fi un set on asd) (fun _ _ => True) (fun q => sz ≤ q)) 0 0 (fun q => sz ≤ q) := by
  refine Met.ofW (cc := cX0_upholds) (maxL := 4) (ret := (some .boolean)) (by decide) rfl ?_
  intro p e s m args below meth c s₁ B hml hv
  obtain ⟨rfl, hsz, hP, hK, hD, hN⟩ := hv
  have hx := B.exec
  have hb := B.bytes
  have hr := B.returns
  have hts := atoms_spec (ws := wsX0_upholds) B.pre
  have hown : s.vm.findClass RX0 = some m.cls := findClass_of_methodNamed B.named
  have hlocks := B.notSynchronized
  have hinX0 : ∀ w ∈ wsX00, w ∈ wsX0_upholds := fun w h => List.mem_cons_of_mem _ (List.mem_append_right _ h)
  subst hsz
  obtain ⟨A, hAe⟩ : ∃ A : Nat → Prop, A = (fun q : Nat => s.heap.size ≤ q) := ⟨_, rfl⟩
  have hA : ∀ q : Nat, s.heap.size ≤ q → A q := fun q h => by rw [hAe]; exact h
  have hS : va_S A s.heap s.heap [] := va_S.rf
  subst hAe
  have hl := lv_entry ([.ref a0, .int set, .int on, .int asd]) (n := 4) (Nat.le_of_ble_eq_true rfl)
  rw [lg_entry_eq]
  generalize (lg_sl ([.ref a0, .int set, .int on, .int asd]) ++ List.replicate (4 - (lg_sl ([.ref a0, .int set, .int on, .int asd])).length) Slot.unset).toArray = ls at hl ⊢
  replace hl : lv_has ls 4 [(0, .ref a0), (1, .int set), (2, .int on), (3, .int asd)] := hl
  have hKe := hK.sub (tys' := []) [] rfl
  refine lv_iload_n hx hb dX0_upholds_0 rfl (lv_at hl 3 rfl) ?_
  refine lv_iload_n hx hb dX0_upholds_1 rfl (lv_at hl 1 rfl) ?_
  refine lv_iconst (v := (-1)) hx hb dX0_upholds_2 (by decide) ?_
  refine lv_ixor hx hb dX0_upholds_3 ?_
  refine lv_iand hx hb dX0_upholds_4 ?_
  refine lv_if_ne (tgt := 39) hx hb dX0_upholds_5 (by decide) (fun c_5_1 => ?_) (fun c_5_1 => ?_)
  · refine lv_iconst (v := 0) hx hb dX0_upholds_39 (by decide) ?_
    exact ro_zret hx hb hr hS hlocks (show s_X0_upholds n may hd fi un set on asd = 0 from by (unfold s_X0_upholds; (try dsimp only); (try rw [if_neg c_5_1]); first | done | rfl)).symm (by decide +kernel) dX0_upholds_40
  · refine lv_aload_n hx hb dX0_upholds_8 rfl (lv_at hl 0 rfl) ?_
    refine lv_iload_n hx hb dX0_upholds_9 rfl (lv_at hl 1 rfl) ?_
    refine lv_iload_n hx hb dX0_upholds_10 rfl (lv_at hl 2 rfl) ?_
    refine ro_i (D := D) (va_runV (As := [.int set, .int on]) (rest := []) ⟨hx, hb, hml, hown, hts⟩ (c_X0_brokenBy l D a0 a1 a2 a3 b1 b2 b3 n may hd fi un set on (by first | assumption | omega) _) (cwV 2 hts gX0_upholds_X0_brokenBy rfl rfl rfl (by decide +kernel) ⟨Nat.le_of_ble_eq_true rfl, Nat.le_of_ble_eq_true rfl⟩) ⟨cPre.blind, va_recv hK hP (ci := 0) (q0 := 0) rfl rfl, cPre.mk hP hK hD hN⟩ rfl rfl hl.1 rfl (lv_room (Nat.le_of_ble_eq_true rfl)) dX0_upholds_11 ⟨Nat.zero_le _, Nat.zero_le _⟩) hS hA (fun H locs hkp0 hS => ?_)
    replace hP := hkp0 _ hP
    refine lv_if_ne (tgt := 39) hx hb dX0_upholds_14 (by decide) (fun c_14_2 => ?_) (fun c_14_2 => ?_)
    · refine lv_iconst (v := 0) hx hb dX0_upholds_39 (by decide) ?_
      exact ro_zret hx hb hr hS hlocks (show s_X0_upholds n may hd fi un set on asd = 0 from by (unfold s_X0_upholds; (try dsimp only); (try rw [if_pos c_5_1]); (try rw [if_neg c_14_2]); first | done | rfl)).symm (by decide +kernel) dX0_upholds_40
    · refine lv_aload_n hx hb dX0_upholds_17 rfl (lv_at hl 0 rfl) ?_
      refine lv_iload_n hx hb dX0_upholds_18 rfl (lv_at hl 3 rfl) ?_
      refine lv_aload_n hx hb dX0_upholds_19 rfl (lv_at hl 0 rfl) ?_
      refine va_get (D := D) (ci := 0) (v := .int may) (C := RX0) (T := TX0) (N := 5) hx hb hts hinX0 hown hK hP 0 rfl rfl 1 (by decide) (hts (.fieldLink RX0 25 "HoldUnless$RuleBook" "may" "I") (by decide +kernel)) (fun _ h9 => h9) rfl dX0_upholds_20 ?_
      refine lv_iload_n hx hb dX0_upholds_23 rfl (lv_at hl 1 rfl) ?_
      refine lv_iand hx hb dX0_upholds_24 ?_
      refine lv_ior hx hb dX0_upholds_25 ?_
      refine lv_iload_n hx hb dX0_upholds_26 rfl (lv_at hl 2 rfl) ?_
      refine lv_iload_n hx hb dX0_upholds_27 rfl (lv_at hl 1 rfl) ?_
      refine ro_i (D := D) (va_runV (As := [.int (asd ||| (may &&& set)), .int on, .int set]) (rest := []) ⟨hx, hb, hml, hown, hts⟩ (c_X0_comesOf l D a0 a1 a2 a3 b1 b2 b3 n may hd fi un (asd ||| (may &&& set)) on set (by first | assumption | omega) _) (cwV 3 hts gX0_upholds_X0_comesOf rfl rfl rfl (by decide +kernel) ⟨Nat.le_of_ble_eq_true rfl, Nat.le_of_ble_eq_true rfl⟩) ⟨cPre.blind, va_recv hK hP (ci := 0) (q0 := 0) rfl rfl, cPre.mk hP hK hD hN⟩ rfl rfl hl.1 rfl (lv_room (Nat.le_of_ble_eq_true rfl)) dX0_upholds_28 ⟨Nat.zero_le _, Nat.zero_le _⟩) hS hA (fun H locs hkp0 hS => ?_)
      replace hP := hkp0 _ hP
      refine lv_iload_n hx hb dX0_upholds_31 rfl (lv_at hl 1 rfl) ?_
      refine lv_icmp_ne (tgt := 39) hx hb dX0_upholds_32 (by decide) (fun c_32_3 => ?_) (fun c_32_3 => ?_)
      · refine lv_iconst (v := 0) hx hb dX0_upholds_39 (by decide) ?_
        exact ro_zret hx hb hr hS hlocks (show s_X0_upholds n may hd fi un set on asd = 0 from by (unfold s_X0_upholds; (try dsimp only); (try rw [if_pos c_5_1]); (try rw [if_pos c_14_2]); (try rw [if_neg c_32_3]); first | done | rfl)).symm (by decide +kernel) dX0_upholds_40
      · refine lv_iconst (v := 1) hx hb dX0_upholds_35 (by decide) ?_
        refine lv_goto (tgt := 40) hx hb dX0_upholds_36 (by decide) ?_
        exact ro_zret hx hb hr hS hlocks (show s_X0_upholds n may hd fi un set on asd = 1 from by (unfold s_X0_upholds; (try dsimp only); (try rw [if_pos c_5_1]); (try rw [if_pos c_14_2]); (try rw [if_pos c_32_3]); first | done | rfl)).symm (by decide +kernel) dX0_upholds_40

def f_X0_firstRuleBringing_3 (hd : Nat → Int32) (fi : Nat → Int32) (un : Nat → Int32) (a : Int32) (came : Int32) (on : Int32) (against : Int32) (j3 : Nat) (st : Unit) : Int32 ⊕ (Unit) := (if (s_X2_bitOf on (nI j3)) = 1 then (if (hd j3) = a then (if (s_X0_bodyHolds fi un j3 came against) = 0 then (.inr ()) else (.inl (nI j3))) else (.inr ())) else (.inr ()))
def s_X0_firstRuleBringing (n : Nat) (hd : Nat → Int32) (fi : Nat → Int32) (un : Nat → Int32) (a : Int32) (came : Int32) (on : Int32) (against : Int32) : Int32 := (onE (itE (f_X0_firstRuleBringing_3 hd fi un a came on against) () n) (fun st => match st with | () => (-9)))
set_option maxHeartbeats 4000000 in
set_option maxRecDepth 100000 in
theorem c_X0_firstRuleBringing (l : Launch) (D : va_G) (a0 : Nat) (a1 : Nat) (a2 : Nat) (a3 : Nat) (b1 : ClassId) (b2 : ClassId) (b3 : ClassId) (n : Nat) (may : Int32) (hd : Nat → Int32) (fi : Nat → Int32) (un : Nat → Int32) (a : Int32) (came : Int32) (on : Int32) (against : Int32) (hn : n ≤ 10) (sz : Nat) : Met l yX0_firstRuleBringing wsX0_firstRuleBringing ({ frames := 1, cells := 0, slots := 0, locals := 23 }) (va_Pc [.ref a0, .int a, .int came, .int on, .int against] (cPre D (tB a0 a1 a2 a3 b1 b2 b3) (wB a0 a1 a2 a3 b1 b2 b3 (nI n) may hd fi un) sz)) (va_Qi (fun r (_ : Unit) => r = s_X0_firstRuleBringing n hd fi un a came on against) (fun _ _ => True) (fun q => sz ≤ q)) 0 0 (fun q => sz ≤ q) := by
  refine Met.ofW (cc := cX0_firstRuleBringing) (maxL := 6) (ret := (some .int)) (by decide) rfl ?_
  intro p e s m args below meth c s₁ B hml hv
  obtain ⟨rfl, hsz, hP, hK, hD, hN⟩ := hv
  have hx := B.exec
  have hb := B.bytes
  have hr := B.returns
  have hts := atoms_spec (ws := wsX0_firstRuleBringing) B.pre
  have hown : s.vm.findClass RX0 = some m.cls := findClass_of_methodNamed B.named
  have hlocks := B.notSynchronized
  have hinX0 : ∀ w ∈ wsX00, w ∈ wsX0_firstRuleBringing := fun w h => List.mem_cons_of_mem _ (List.mem_append_right _ h)
  subst hsz
  obtain ⟨A, hAe⟩ : ∃ A : Nat → Prop, A = (fun q : Nat => s.heap.size ≤ q) := ⟨_, rfl⟩
  have hA : ∀ q : Nat, s.heap.size ≤ q → A q := fun q h => by rw [hAe]; exact h
  have hS : va_S A s.heap s.heap [] := va_S.rf
  subst hAe
  have hl := lv_entry ([.ref a0, .int a, .int came, .int on, .int against]) (n := 6) (Nat.le_of_ble_eq_true rfl)
  rw [lg_entry_eq]
  generalize (lg_sl ([.ref a0, .int a, .int came, .int on, .int against]) ++ List.replicate (6 - (lg_sl ([.ref a0, .int a, .int came, .int on, .int against])).length) Slot.unset).toArray = ls at hl ⊢
  replace hl : lv_has ls 6 [(0, .ref a0), (1, .int a), (2, .int came), (3, .int on), (4, .int against)] := hl
  have hKe := hK.sub (tys' := []) [] rfl
  refine lv_iconst (v := 0) hx hb dX0_firstRuleBringing_0 (by decide) ?_
  refine lv_istore (lv' := [(5, .int 0), (0, .ref a0), (1, .int a), (2, .int came), (3, .int on), (4, .int against)]) hx hb dX0_firstRuleBringing_1 hl (by decide) rfl (fun ls hl => ?_)
  have lp3_1 : ∀ (z_1 j3 : Nat), j3 + z_1 = n → ∀ (_ : Unit), itE (f_X0_firstRuleBringing_3 hd fi un a came on against) () j3 = .inr () → ∀  (H : Heap) (locs : List Loc), va_P D vwCl (wB a0 a1 a2 a3 b1 b2 b3 (nI n) may hd fi un) H → va_S (fun q : Nat => s.heap.size ≤ q) s.heap H locs → ∀ ls : Array Slot, lv_has ls 6 [(0, .ref a0), (1, .int a), (2, .int came), (3, .int on), (4, .int against), (5, .int (nI j3))] → W p l e (headSpec wsX0_firstRuleBringing ({ frames := 1, cells := 0, slots := 0, locals := 23 })).room s m ([.ref a0, .int a, .int came, .int on, .int against] : List Value).toArray below meth c H locs 0 0 (MQ below (va_Qi (fun r (_ : Unit) => r = s_X0_firstRuleBringing n hd fi un a came on against) (fun _ _ => True) (fun q => s.heap.size ≤ q)) ([.ref a0, .int a, .int came, .int on, .int against] : List Value).toArray s 0 0 (fun q => s.heap.size ≤ q)) (F0 m 3 ls []) := by
    intro z_1
    induction z_1 with
    | zero =>
      intro j3 hj3 _ he3   H locs hP hS ls hl
      obtain rfl : n = j3 := by omega
      refine lv_iload hx hb dX0_firstRuleBringing_3 (lv_at hl 5 rfl) ?_
      refine lv_aload_n hx hb dX0_firstRuleBringing_5 rfl (lv_at hl 0 rfl) ?_
      refine va_get (D := D) (ci := 0) (v := .int (nI n)) (C := RX0) (T := TX0) (N := 5) hx hb hts hinX0 hown hK hP 0 rfl rfl 0 (by decide) (hts (.fieldLink RX0 21 "HoldUnless$RuleBook" "size" "I") (by decide +kernel)) (fun _ h9 => h9) rfl dX0_firstRuleBringing_6 ?_
      refine lv_icmp_ge (tgt := 54) hx hb dX0_firstRuleBringing_9 (by decide) (fun _ => ?_) (fun hh_3 => absurd (nI_le (a := n) (b := n) (by omega) (by omega)) hh_3)
      refine lv_bipush (v := (-9)) hx hb dX0_firstRuleBringing_54 (by decide) ?_
      exact ro_iret hx hb hr hS hlocks (show s_X0_firstRuleBringing n hd fi un a came on against = (-9) from by (unfold s_X0_firstRuleBringing; (try dsimp only); (try rw [he3]); (try dsimp only [onE]); first | done | rfl)).symm dX0_firstRuleBringing_56
    | succ z_1 ih3 =>
      intro j3 hj3 _ he3   H locs hP hS ls hl
      refine lv_iload hx hb dX0_firstRuleBringing_3 (lv_at hl 5 rfl) ?_
      refine lv_aload_n hx hb dX0_firstRuleBringing_5 rfl (lv_at hl 0 rfl) ?_
      refine va_get (D := D) (ci := 0) (v := .int (nI n)) (C := RX0) (T := TX0) (N := 5) hx hb hts hinX0 hown hK hP 0 rfl rfl 0 (by decide) (hts (.fieldLink RX0 21 "HoldUnless$RuleBook" "size" "I") (by decide +kernel)) (fun _ h9 => h9) rfl dX0_firstRuleBringing_6 ?_
      refine lv_icmp_ge (tgt := 54) hx hb dX0_firstRuleBringing_9 (by decide) (fun hh_5 => absurd hh_5 (nI_ge (a := j3) (b := n) (by omega) (by omega))) (fun _ => ?_)
      refine lv_iload_n hx hb dX0_firstRuleBringing_12 rfl (lv_at hl 3 rfl) ?_
      refine lv_iload hx hb dX0_firstRuleBringing_13 (lv_at hl 5 rfl) ?_
      refine ro_i (D := D) (va_runSN (As := [.int on, .int (nI j3)]) (rest := []) ⟨hx, hb, hml, hown, hts⟩ (c_X2_bitOf l D on (nI j3)  _) ⟨(va_cnB 2 hts gX0_firstRuleBringing_X2_bitOf_n32 rfl rfl rfl (hN.nw 9 rfl) (hts (.initialized RX2) (by decide +kernel)) (by decide +kernel) ⟨Nat.le_of_ble_eq_true rfl, Nat.le_of_ble_eq_true rfl⟩), hts (.static yX2_bitOf) (by decide +kernel), trivial⟩ ⟨cPre.blind, cPre.mk vP0 hKe vD0 hN⟩ rfl rfl hl.1 rfl (lv_room (Nat.le_of_ble_eq_true rfl)) dX0_firstRuleBringing_15 ⟨Nat.zero_le _, Nat.zero_le _⟩) hS hA (fun H locs hkp0 hS => ?_)
      replace hP := hkp0 _ hP
      refine lv_iconst (v := 1) hx hb dX0_firstRuleBringing_18 (by decide) ?_
      refine lv_icmp_ne (tgt := 48) hx hb dX0_firstRuleBringing_19 (by decide) (fun c_19_6 => ?_) (fun c_19_6 => ?_)
      · refine lv_iinc (v := nI (j3 + 1)) (lv' := [(5, .int (nI (j3 + 1))), (0, .ref a0), (1, .int a), (2, .int came), (3, .int on), (4, .int against)]) hx hb dX0_firstRuleBringing_48 hl (k := 5) rfl (inc_nI j3) (by decide) rfl (fun ls hl => ?_)
        refine lv_goto (tgt := 3) hx hb dX0_firstRuleBringing_51 (by decide) ?_
        exact ih3 (j3 + 1) (by omega) () (itE_succ he3 (by (unfold f_X0_firstRuleBringing_3; (try dsimp only); (try rw [if_neg c_19_6]); first | done | rfl)))   _ _ hP hS _ (lv_sub hl [1, 2, 3, 4, 5, 0] rfl)
      · refine lv_aload_n hx hb dX0_firstRuleBringing_22 rfl (lv_at hl 0 rfl) ?_
        refine va_get (D := D) (ci := 0) (v := .ref a1) (C := RX0) (T := TX0) (N := 5) hx hb hts hinX0 hown hK hP 0 rfl rfl 2 (by decide) (hts (.fieldLink RX0 9 "HoldUnless$RuleBook" "head" "[I") (by decide +kernel)) (fun _ h9 => h9) rfl dX0_firstRuleBringing_23 ?_
        refine lv_iload hx hb dX0_firstRuleBringing_26 (lv_at hl 5 rfl) ?_
        refine wa_ild hx hb hK hP 1 0 rfl rfl j3 rfl (by omega) (by decide) dX0_firstRuleBringing_28 ?_
        refine lv_iload_n hx hb dX0_firstRuleBringing_29 rfl (lv_at hl 1 rfl) ?_
        refine lv_icmp_ne (tgt := 48) hx hb dX0_firstRuleBringing_30 (by decide) (fun c_30_7 => ?_) (fun c_30_7 => ?_)
        · refine lv_iinc (v := nI (j3 + 1)) (lv' := [(5, .int (nI (j3 + 1))), (0, .ref a0), (1, .int a), (2, .int came), (3, .int on), (4, .int against)]) hx hb dX0_firstRuleBringing_48 hl (k := 5) rfl (inc_nI j3) (by decide) rfl (fun ls hl => ?_)
          refine lv_goto (tgt := 3) hx hb dX0_firstRuleBringing_51 (by decide) ?_
          exact ih3 (j3 + 1) (by omega) () (itE_succ he3 (by (unfold f_X0_firstRuleBringing_3; (try dsimp only); (try rw [if_pos c_19_6]); (try rw [if_neg c_30_7]); first | done | rfl)))   _ _ hP hS _ (lv_sub hl [1, 2, 3, 4, 5, 0] rfl)
        · refine lv_aload_n hx hb dX0_firstRuleBringing_33 rfl (lv_at hl 0 rfl) ?_
          refine lv_iload hx hb dX0_firstRuleBringing_34 (lv_at hl 5 rfl) ?_
          refine lv_iload_n hx hb dX0_firstRuleBringing_36 rfl (lv_at hl 2 rfl) ?_
          refine lv_iload hx hb dX0_firstRuleBringing_37 (lv_at hl 4 rfl) ?_
          refine ro_i (D := D) (va_runV (As := [.int (nI j3), .int came, .int against]) (rest := []) ⟨hx, hb, hml, hown, hts⟩ (c_X0_bodyHolds l D a0 a1 a2 a3 b1 b2 b3 n may hd fi un j3 came against (by first | assumption | omega) _) (cwV 3 hts gX0_firstRuleBringing_X0_bodyHolds rfl rfl rfl (by decide +kernel) ⟨Nat.le_of_ble_eq_true rfl, Nat.le_of_ble_eq_true rfl⟩) ⟨cPre.blind, va_recv hK hP (ci := 0) (q0 := 0) rfl rfl, cPre.mk hP hK hD hN⟩ rfl rfl hl.1 rfl (lv_room (Nat.le_of_ble_eq_true rfl)) dX0_firstRuleBringing_39 ⟨Nat.zero_le _, Nat.zero_le _⟩) hS hA (fun H locs hkp0 hS => ?_)
          replace hP := hkp0 _ hP
          refine lv_if_eq (tgt := 48) hx hb dX0_firstRuleBringing_42 (by decide) (fun c_42_8 => ?_) (fun c_42_8 => ?_)
          · refine lv_iinc (v := nI (j3 + 1)) (lv' := [(5, .int (nI (j3 + 1))), (0, .ref a0), (1, .int a), (2, .int came), (3, .int on), (4, .int against)]) hx hb dX0_firstRuleBringing_48 hl (k := 5) rfl (inc_nI j3) (by decide) rfl (fun ls hl => ?_)
            refine lv_goto (tgt := 3) hx hb dX0_firstRuleBringing_51 (by decide) ?_
            exact ih3 (j3 + 1) (by omega) () (itE_succ he3 (by (unfold f_X0_firstRuleBringing_3; (try dsimp only); (try rw [if_pos c_19_6]); (try rw [if_pos c_30_7]); (try rw [if_pos c_42_8]); first | done | rfl)))   _ _ hP hS _ (lv_sub hl [1, 2, 3, 4, 5, 0] rfl)
          · refine lv_iload hx hb dX0_firstRuleBringing_45 (lv_at hl 5 rfl) ?_
            have hs_9 : itE (f_X0_firstRuleBringing_3 hd fi un a came on against) () (j3 + 1) = (.inl (nI j3)) := itE_succ he3 (by (unfold f_X0_firstRuleBringing_3; (try dsimp only); (try rw [if_pos c_19_6]); (try rw [if_pos c_30_7]); (try rw [if_neg c_42_8]); first | done | rfl))
            have hn_10 := itE_stop hs_9 n (by omega)
            exact ro_iret hx hb hr hS hlocks (show s_X0_firstRuleBringing n hd fi un a came on against = nI j3 from by (unfold s_X0_firstRuleBringing; (try dsimp only); (try rw [hn_10]); (try dsimp only [onE]); first | done | rfl)).symm dX0_firstRuleBringing_47
  exact lp3_1 n 0 (by omega) () (itE_zero _ _)   _ _ hP hS _ (lv_sub hl [1, 2, 3, 4, 5, 0] rfl)

def f_X0_partUnder__fi_6 (hd : Nat → Int32) (fi : Nat → Int32) (heads : Int32) (on : Int32) (j6 : Nat) (st : Int32) : Int32 := match st with | under => (if (s_X2_bitOf on (nI j6)) = 1 then (if (s_X2_bitOf heads (hd j6)) = 1 then (under ||| (fi j6)) else under) else under)
def s_X0_partUnder__fi (n : Nat) (hd : Nat → Int32) (fi : Nat → Int32) (heads : Int32) (on : Int32) : Int32 := (match itr (f_X0_partUnder__fi_6 hd fi heads on) 0 n with | under => under)
set_option maxHeartbeats 4000000 in
set_option maxRecDepth 100000 in
theorem c_X0_partUnder__fi (l : Launch) (D : va_G) (a0 : Nat) (a1 : Nat) (a2 : Nat) (a3 : Nat) (b1 : ClassId) (b2 : ClassId) (b3 : ClassId) (n : Nat) (may : Int32) (hd : Nat → Int32) (fi : Nat → Int32) (un : Nat → Int32) (heads : Int32) (on : Int32) (hn : n ≤ 10) (sz : Nat) : Met l yX0_partUnder wsX0_partUnder ({ frames := 1, cells := 0, slots := 0, locals := 21 }) (va_Pc [.ref a0, .ref a2, .int heads, .int on] (cPre D (tB a0 a1 a2 a3 b1 b2 b3) (wB a0 a1 a2 a3 b1 b2 b3 (nI n) may hd fi un) sz)) (va_Qi (fun r (_ : Unit) => r = s_X0_partUnder__fi n hd fi heads on) (fun _ _ => True) (fun q => sz ≤ q)) 0 0 (fun q => sz ≤ q) := by
  refine Met.ofW (cc := cX0_partUnder) (maxL := 6) (ret := (some .int)) (by decide) rfl ?_
  intro p e s m args below meth c s₁ B hml hv
  obtain ⟨rfl, hsz, hP, hK, hD, hN⟩ := hv
  have hx := B.exec
  have hb := B.bytes
  have hr := B.returns
  have hts := atoms_spec (ws := wsX0_partUnder) B.pre
  have hown : s.vm.findClass RX0 = some m.cls := findClass_of_methodNamed B.named
  have hlocks := B.notSynchronized
  have hinX0 : ∀ w ∈ wsX00, w ∈ wsX0_partUnder := fun w h => List.mem_cons_of_mem _ (List.mem_append_right _ h)
  subst hsz
  obtain ⟨A, hAe⟩ : ∃ A : Nat → Prop, A = (fun q : Nat => s.heap.size ≤ q) := ⟨_, rfl⟩
  have hA : ∀ q : Nat, s.heap.size ≤ q → A q := fun q h => by rw [hAe]; exact h
  have hS : va_S A s.heap s.heap [] := va_S.rf
  subst hAe
  have hl := lv_entry ([.ref a0, .ref a2, .int heads, .int on]) (n := 6) (Nat.le_of_ble_eq_true rfl)
  rw [lg_entry_eq]
  generalize (lg_sl ([.ref a0, .ref a2, .int heads, .int on]) ++ List.replicate (6 - (lg_sl ([.ref a0, .ref a2, .int heads, .int on])).length) Slot.unset).toArray = ls at hl ⊢
  replace hl : lv_has ls 6 [(0, .ref a0), (1, .ref a2), (2, .int heads), (3, .int on)] := hl
  have hKe := hK.sub (tys' := []) [] rfl
  refine lv_iconst (v := 0) hx hb dX0_partUnder_0 (by decide) ?_
  refine lv_istore (lv' := [(4, .int 0), (0, .ref a0), (1, .ref a2), (2, .int heads), (3, .int on)]) hx hb dX0_partUnder_1 hl (by decide) rfl (fun ls hl => ?_)
  refine lv_iconst (v := 0) hx hb dX0_partUnder_3 (by decide) ?_
  refine lv_istore (lv' := [(5, .int 0), (4, .int 0), (0, .ref a0), (1, .ref a2), (2, .int heads), (3, .int on)]) hx hb dX0_partUnder_4 hl (by decide) rfl (fun ls hl => ?_)
  have lp6_1 : ∀ (z_1 j6 : Nat), j6 + z_1 = n → ∀ (under : Int32), under = itr (f_X0_partUnder__fi_6 hd fi heads on) 0 j6 → ∀  (H : Heap) (locs : List Loc), va_P D vwCl (wB a0 a1 a2 a3 b1 b2 b3 (nI n) may hd fi un) H → va_S (fun q : Nat => s.heap.size ≤ q) s.heap H locs → ∀ ls : Array Slot, lv_has ls 6 [(0, .ref a0), (1, .ref a2), (2, .int heads), (3, .int on), (4, .int under), (5, .int (nI j6))] → W p l e (headSpec wsX0_partUnder ({ frames := 1, cells := 0, slots := 0, locals := 21 })).room s m ([.ref a0, .ref a2, .int heads, .int on] : List Value).toArray below meth c H locs 0 0 (MQ below (va_Qi (fun r (_ : Unit) => r = s_X0_partUnder__fi n hd fi heads on) (fun _ _ => True) (fun q => s.heap.size ≤ q)) ([.ref a0, .ref a2, .int heads, .int on] : List Value).toArray s 0 0 (fun q => s.heap.size ≤ q)) (F0 m 6 ls []) := by
    intro z_1
    induction z_1 with
    | zero =>
      intro j6 hj6 under he6   H locs hP hS ls hl
      obtain rfl : n = j6 := by omega
      refine lv_iload hx hb dX0_partUnder_6 (lv_at hl 5 rfl) ?_
      refine lv_aload_n hx hb dX0_partUnder_8 rfl (lv_at hl 0 rfl) ?_
      refine va_get (D := D) (ci := 0) (v := .int (nI n)) (C := RX0) (T := TX0) (N := 5) hx hb hts hinX0 hown hK hP 0 rfl rfl 0 (by decide) (hts (.fieldLink RX0 21 "HoldUnless$RuleBook" "size" "I") (by decide +kernel)) (fun _ h9 => h9) rfl dX0_partUnder_9 ?_
      refine lv_icmp_ge (tgt := 55) hx hb dX0_partUnder_12 (by decide) (fun _ => ?_) (fun hh_3 => absurd (nI_le (a := n) (b := n) (by omega) (by omega)) hh_3)
      refine lv_iload hx hb dX0_partUnder_55 (lv_at hl 4 rfl) ?_
      exact ro_iret hx hb hr hS hlocks (show s_X0_partUnder__fi n hd fi heads on = under from by (unfold s_X0_partUnder__fi; (try dsimp only); (try rw [← he6]); (try dsimp only); first | done | rfl)).symm dX0_partUnder_57
    | succ z_1 ih6 =>
      intro j6 hj6 under he6   H locs hP hS ls hl
      refine lv_iload hx hb dX0_partUnder_6 (lv_at hl 5 rfl) ?_
      refine lv_aload_n hx hb dX0_partUnder_8 rfl (lv_at hl 0 rfl) ?_
      refine va_get (D := D) (ci := 0) (v := .int (nI n)) (C := RX0) (T := TX0) (N := 5) hx hb hts hinX0 hown hK hP 0 rfl rfl 0 (by decide) (hts (.fieldLink RX0 21 "HoldUnless$RuleBook" "size" "I") (by decide +kernel)) (fun _ h9 => h9) rfl dX0_partUnder_9 ?_
      refine lv_icmp_ge (tgt := 55) hx hb dX0_partUnder_12 (by decide) (fun hh_5 => absurd hh_5 (nI_ge (a := j6) (b := n) (by omega) (by omega))) (fun _ => ?_)
      refine lv_iload_n hx hb dX0_partUnder_15 rfl (lv_at hl 3 rfl) ?_
      refine lv_iload hx hb dX0_partUnder_16 (lv_at hl 5 rfl) ?_
      refine ro_i (D := D) (va_runSN (As := [.int on, .int (nI j6)]) (rest := []) ⟨hx, hb, hml, hown, hts⟩ (c_X2_bitOf l D on (nI j6)  _) ⟨(va_cnB 2 hts gX0_partUnder_X2_bitOf_n32 rfl rfl rfl (hN.nw 9 rfl) (hts (.initialized RX2) (by decide +kernel)) (by decide +kernel) ⟨Nat.le_of_ble_eq_true rfl, Nat.le_of_ble_eq_true rfl⟩), hts (.static yX2_bitOf) (by decide +kernel), trivial⟩ ⟨cPre.blind, cPre.mk vP0 hKe vD0 hN⟩ rfl rfl hl.1 rfl (lv_room (Nat.le_of_ble_eq_true rfl)) dX0_partUnder_18 ⟨Nat.zero_le _, Nat.zero_le _⟩) hS hA (fun H locs hkp0 hS => ?_)
      replace hP := hkp0 _ hP
      refine lv_iconst (v := 1) hx hb dX0_partUnder_21 (by decide) ?_
      refine lv_icmp_ne (tgt := 49) hx hb dX0_partUnder_22 (by decide) (fun c_22_6 => ?_) (fun c_22_6 => ?_)
      · refine lv_iinc (v := nI (j6 + 1)) (lv' := [(5, .int (nI (j6 + 1))), (0, .ref a0), (1, .ref a2), (2, .int heads), (3, .int on), (4, .int under)]) hx hb dX0_partUnder_49 hl (k := 5) rfl (inc_nI j6) (by decide) rfl (fun ls hl => ?_)
        refine lv_goto (tgt := 6) hx hb dX0_partUnder_52 (by decide) ?_
        exact ih6 (j6 + 1) (by omega) under (itr_step he6 (by (unfold f_X0_partUnder__fi_6; (try dsimp only); (try rw [if_neg c_22_6]); first | done | rfl)))   _ _ hP hS _ (lv_sub hl [1, 2, 3, 4, 5, 0] rfl)
      · refine lv_iload_n hx hb dX0_partUnder_25 rfl (lv_at hl 2 rfl) ?_
        refine lv_aload_n hx hb dX0_partUnder_26 rfl (lv_at hl 0 rfl) ?_
        refine va_get (D := D) (ci := 0) (v := .ref a1) (C := RX0) (T := TX0) (N := 5) hx hb hts hinX0 hown hK hP 0 rfl rfl 2 (by decide) (hts (.fieldLink RX0 9 "HoldUnless$RuleBook" "head" "[I") (by decide +kernel)) (fun _ h9 => h9) rfl dX0_partUnder_27 ?_
        refine lv_iload hx hb dX0_partUnder_30 (lv_at hl 5 rfl) ?_
        refine wa_ild hx hb hK hP 1 0 rfl rfl j6 rfl (by omega) (by decide) dX0_partUnder_32 ?_
        refine ro_i (D := D) (va_runSN (As := [.int heads, .int (hd j6)]) (rest := []) ⟨hx, hb, hml, hown, hts⟩ (c_X2_bitOf l D heads (hd j6)  _) ⟨(va_cnB 2 hts gX0_partUnder_X2_bitOf_n32 rfl rfl rfl (hN.nw 9 rfl) (hts (.initialized RX2) (by decide +kernel)) (by decide +kernel) ⟨Nat.le_of_ble_eq_true rfl, Nat.le_of_ble_eq_true rfl⟩), hts (.static yX2_bitOf) (by decide +kernel), trivial⟩ ⟨cPre.blind, cPre.mk vP0 hKe vD0 hN⟩ rfl rfl hl.1 rfl (lv_room (Nat.le_of_ble_eq_true rfl)) dX0_partUnder_33 ⟨Nat.zero_le _, Nat.zero_le _⟩) hS hA (fun H locs hkp0 hS => ?_)
        replace hP := hkp0 _ hP
        refine lv_iconst (v := 1) hx hb dX0_partUnder_36 (by decide) ?_
        refine lv_icmp_ne (tgt := 49) hx hb dX0_partUnder_37 (by decide) (fun c_37_7 => ?_) (fun c_37_7 => ?_)
        · refine lv_iinc (v := nI (j6 + 1)) (lv' := [(5, .int (nI (j6 + 1))), (0, .ref a0), (1, .ref a2), (2, .int heads), (3, .int on), (4, .int under)]) hx hb dX0_partUnder_49 hl (k := 5) rfl (inc_nI j6) (by decide) rfl (fun ls hl => ?_)
          refine lv_goto (tgt := 6) hx hb dX0_partUnder_52 (by decide) ?_
          exact ih6 (j6 + 1) (by omega) under (itr_step he6 (by (unfold f_X0_partUnder__fi_6; (try dsimp only); (try rw [if_pos c_22_6]); (try rw [if_neg c_37_7]); first | done | rfl)))   _ _ hP hS _ (lv_sub hl [1, 2, 3, 4, 5, 0] rfl)
        · refine lv_iload hx hb dX0_partUnder_40 (lv_at hl 4 rfl) ?_
          refine lv_aload_n hx hb dX0_partUnder_42 rfl (lv_at hl 1 rfl) ?_
          refine lv_iload hx hb dX0_partUnder_43 (lv_at hl 5 rfl) ?_
          refine wa_ild hx hb hK hP 2 1 rfl rfl j6 rfl (by omega) (by decide) dX0_partUnder_45 ?_
          refine lv_ior hx hb dX0_partUnder_46 ?_
          refine lv_istore (lv' := [(4, .int (under ||| (fi j6))), (0, .ref a0), (1, .ref a2), (2, .int heads), (3, .int on), (5, .int (nI j6))]) hx hb dX0_partUnder_47 hl (by decide) rfl (fun ls hl => ?_)
          refine lv_iinc (v := nI (j6 + 1)) (lv' := [(5, .int (nI (j6 + 1))), (4, .int (under ||| (fi j6))), (0, .ref a0), (1, .ref a2), (2, .int heads), (3, .int on)]) hx hb dX0_partUnder_49 hl (k := 5) rfl (inc_nI j6) (by decide) rfl (fun ls hl => ?_)
          refine lv_goto (tgt := 6) hx hb dX0_partUnder_52 (by decide) ?_
          exact ih6 (j6 + 1) (by omega) (under ||| (fi j6)) (itr_step he6 (by (unfold f_X0_partUnder__fi_6; (try dsimp only); (try rw [if_pos c_22_6]); (try rw [if_pos c_37_7]); first | done | rfl)))   _ _ hP hS _ (lv_sub hl [2, 3, 4, 5, 1, 0] rfl)
  exact lp6_1 n 0 (by omega) 0 (itr_zero _ _).symm   _ _ hP hS _ (lv_sub hl [2, 3, 4, 5, 1, 0] rfl)

def f_X0_partUnder__un_6 (hd : Nat → Int32) (un : Nat → Int32) (heads : Int32) (on : Int32) (j6 : Nat) (st : Int32) : Int32 := match st with | under => (if (s_X2_bitOf on (nI j6)) = 1 then (if (s_X2_bitOf heads (hd j6)) = 1 then (under ||| (un j6)) else under) else under)
def s_X0_partUnder__un (n : Nat) (hd : Nat → Int32) (un : Nat → Int32) (heads : Int32) (on : Int32) : Int32 := (match itr (f_X0_partUnder__un_6 hd un heads on) 0 n with | under => under)
set_option maxHeartbeats 4000000 in
set_option maxRecDepth 100000 in
theorem c_X0_partUnder__un (l : Launch) (D : va_G) (a0 : Nat) (a1 : Nat) (a2 : Nat) (a3 : Nat) (b1 : ClassId) (b2 : ClassId) (b3 : ClassId) (n : Nat) (may : Int32) (hd : Nat → Int32) (fi : Nat → Int32) (un : Nat → Int32) (heads : Int32) (on : Int32) (hn : n ≤ 10) (sz : Nat) : Met l yX0_partUnder wsX0_partUnder ({ frames := 1, cells := 0, slots := 0, locals := 21 }) (va_Pc [.ref a0, .ref a3, .int heads, .int on] (cPre D (tB a0 a1 a2 a3 b1 b2 b3) (wB a0 a1 a2 a3 b1 b2 b3 (nI n) may hd fi un) sz)) (va_Qi (fun r (_ : Unit) => r = s_X0_partUnder__un n hd un heads on) (fun _ _ => True) (fun q => sz ≤ q)) 0 0 (fun q => sz ≤ q) := by
  refine Met.ofW (cc := cX0_partUnder) (maxL := 6) (ret := (some .int)) (by decide) rfl ?_
  intro p e s m args below meth c s₁ B hml hv
  obtain ⟨rfl, hsz, hP, hK, hD, hN⟩ := hv
  have hx := B.exec
  have hb := B.bytes
  have hr := B.returns
  have hts := atoms_spec (ws := wsX0_partUnder) B.pre
  have hown : s.vm.findClass RX0 = some m.cls := findClass_of_methodNamed B.named
  have hlocks := B.notSynchronized
  have hinX0 : ∀ w ∈ wsX00, w ∈ wsX0_partUnder := fun w h => List.mem_cons_of_mem _ (List.mem_append_right _ h)
  subst hsz
  obtain ⟨A, hAe⟩ : ∃ A : Nat → Prop, A = (fun q : Nat => s.heap.size ≤ q) := ⟨_, rfl⟩
  have hA : ∀ q : Nat, s.heap.size ≤ q → A q := fun q h => by rw [hAe]; exact h
  have hS : va_S A s.heap s.heap [] := va_S.rf
  subst hAe
  have hl := lv_entry ([.ref a0, .ref a3, .int heads, .int on]) (n := 6) (Nat.le_of_ble_eq_true rfl)
  rw [lg_entry_eq]
  generalize (lg_sl ([.ref a0, .ref a3, .int heads, .int on]) ++ List.replicate (6 - (lg_sl ([.ref a0, .ref a3, .int heads, .int on])).length) Slot.unset).toArray = ls at hl ⊢
  replace hl : lv_has ls 6 [(0, .ref a0), (1, .ref a3), (2, .int heads), (3, .int on)] := hl
  have hKe := hK.sub (tys' := []) [] rfl
  refine lv_iconst (v := 0) hx hb dX0_partUnder_0 (by decide) ?_
  refine lv_istore (lv' := [(4, .int 0), (0, .ref a0), (1, .ref a3), (2, .int heads), (3, .int on)]) hx hb dX0_partUnder_1 hl (by decide) rfl (fun ls hl => ?_)
  refine lv_iconst (v := 0) hx hb dX0_partUnder_3 (by decide) ?_
  refine lv_istore (lv' := [(5, .int 0), (4, .int 0), (0, .ref a0), (1, .ref a3), (2, .int heads), (3, .int on)]) hx hb dX0_partUnder_4 hl (by decide) rfl (fun ls hl => ?_)
  have lp6_1 : ∀ (z_1 j6 : Nat), j6 + z_1 = n → ∀ (under : Int32), under = itr (f_X0_partUnder__un_6 hd un heads on) 0 j6 → ∀  (H : Heap) (locs : List Loc), va_P D vwCl (wB a0 a1 a2 a3 b1 b2 b3 (nI n) may hd fi un) H → va_S (fun q : Nat => s.heap.size ≤ q) s.heap H locs → ∀ ls : Array Slot, lv_has ls 6 [(0, .ref a0), (1, .ref a3), (2, .int heads), (3, .int on), (4, .int under), (5, .int (nI j6))] → W p l e (headSpec wsX0_partUnder ({ frames := 1, cells := 0, slots := 0, locals := 21 })).room s m ([.ref a0, .ref a3, .int heads, .int on] : List Value).toArray below meth c H locs 0 0 (MQ below (va_Qi (fun r (_ : Unit) => r = s_X0_partUnder__un n hd un heads on) (fun _ _ => True) (fun q => s.heap.size ≤ q)) ([.ref a0, .ref a3, .int heads, .int on] : List Value).toArray s 0 0 (fun q => s.heap.size ≤ q)) (F0 m 6 ls []) := by
    intro z_1
    induction z_1 with
    | zero =>
      intro j6 hj6 under he6   H locs hP hS ls hl
      obtain rfl : n = j6 := by omega
      refine lv_iload hx hb dX0_partUnder_6 (lv_at hl 5 rfl) ?_
      refine lv_aload_n hx hb dX0_partUnder_8 rfl (lv_at hl 0 rfl) ?_
      refine va_get (D := D) (ci := 0) (v := .int (nI n)) (C := RX0) (T := TX0) (N := 5) hx hb hts hinX0 hown hK hP 0 rfl rfl 0 (by decide) (hts (.fieldLink RX0 21 "HoldUnless$RuleBook" "size" "I") (by decide +kernel)) (fun _ h9 => h9) rfl dX0_partUnder_9 ?_
      refine lv_icmp_ge (tgt := 55) hx hb dX0_partUnder_12 (by decide) (fun _ => ?_) (fun hh_3 => absurd (nI_le (a := n) (b := n) (by omega) (by omega)) hh_3)
      refine lv_iload hx hb dX0_partUnder_55 (lv_at hl 4 rfl) ?_
      exact ro_iret hx hb hr hS hlocks (show s_X0_partUnder__un n hd un heads on = under from by (unfold s_X0_partUnder__un; (try dsimp only); (try rw [← he6]); (try dsimp only); first | done | rfl)).symm dX0_partUnder_57
    | succ z_1 ih6 =>
      intro j6 hj6 under he6   H locs hP hS ls hl
      refine lv_iload hx hb dX0_partUnder_6 (lv_at hl 5 rfl) ?_
      refine lv_aload_n hx hb dX0_partUnder_8 rfl (lv_at hl 0 rfl) ?_
      refine va_get (D := D) (ci := 0) (v := .int (nI n)) (C := RX0) (T := TX0) (N := 5) hx hb hts hinX0 hown hK hP 0 rfl rfl 0 (by decide) (hts (.fieldLink RX0 21 "HoldUnless$RuleBook" "size" "I") (by decide +kernel)) (fun _ h9 => h9) rfl dX0_partUnder_9 ?_
      refine lv_icmp_ge (tgt := 55) hx hb dX0_partUnder_12 (by decide) (fun hh_5 => absurd hh_5 (nI_ge (a := j6) (b := n) (by omega) (by omega))) (fun _ => ?_)
      refine lv_iload_n hx hb dX0_partUnder_15 rfl (lv_at hl 3 rfl) ?_
      refine lv_iload hx hb dX0_partUnder_16 (lv_at hl 5 rfl) ?_
      refine ro_i (D := D) (va_runSN (As := [.int on, .int (nI j6)]) (rest := []) ⟨hx, hb, hml, hown, hts⟩ (c_X2_bitOf l D on (nI j6)  _) ⟨(va_cnB 2 hts gX0_partUnder_X2_bitOf_n32 rfl rfl rfl (hN.nw 9 rfl) (hts (.initialized RX2) (by decide +kernel)) (by decide +kernel) ⟨Nat.le_of_ble_eq_true rfl, Nat.le_of_ble_eq_true rfl⟩), hts (.static yX2_bitOf) (by decide +kernel), trivial⟩ ⟨cPre.blind, cPre.mk vP0 hKe vD0 hN⟩ rfl rfl hl.1 rfl (lv_room (Nat.le_of_ble_eq_true rfl)) dX0_partUnder_18 ⟨Nat.zero_le _, Nat.zero_le _⟩) hS hA (fun H locs hkp0 hS => ?_)
      replace hP := hkp0 _ hP
      refine lv_iconst (v := 1) hx hb dX0_partUnder_21 (by decide) ?_
      refine lv_icmp_ne (tgt := 49) hx hb dX0_partUnder_22 (by decide) (fun c_22_6 => ?_) (fun c_22_6 => ?_)
      · refine lv_iinc (v := nI (j6 + 1)) (lv' := [(5, .int (nI (j6 + 1))), (0, .ref a0), (1, .ref a3), (2, .int heads), (3, .int on), (4, .int under)]) hx hb dX0_partUnder_49 hl (k := 5) rfl (inc_nI j6) (by decide) rfl (fun ls hl => ?_)
        refine lv_goto (tgt := 6) hx hb dX0_partUnder_52 (by decide) ?_
        exact ih6 (j6 + 1) (by omega) under (itr_step he6 (by (unfold f_X0_partUnder__un_6; (try dsimp only); (try rw [if_neg c_22_6]); first | done | rfl)))   _ _ hP hS _ (lv_sub hl [1, 2, 3, 4, 5, 0] rfl)
      · refine lv_iload_n hx hb dX0_partUnder_25 rfl (lv_at hl 2 rfl) ?_
        refine lv_aload_n hx hb dX0_partUnder_26 rfl (lv_at hl 0 rfl) ?_
        refine va_get (D := D) (ci := 0) (v := .ref a1) (C := RX0) (T := TX0) (N := 5) hx hb hts hinX0 hown hK hP 0 rfl rfl 2 (by decide) (hts (.fieldLink RX0 9 "HoldUnless$RuleBook" "head" "[I") (by decide +kernel)) (fun _ h9 => h9) rfl dX0_partUnder_27 ?_
        refine lv_iload hx hb dX0_partUnder_30 (lv_at hl 5 rfl) ?_
        refine wa_ild hx hb hK hP 1 0 rfl rfl j6 rfl (by omega) (by decide) dX0_partUnder_32 ?_
        refine ro_i (D := D) (va_runSN (As := [.int heads, .int (hd j6)]) (rest := []) ⟨hx, hb, hml, hown, hts⟩ (c_X2_bitOf l D heads (hd j6)  _) ⟨(va_cnB 2 hts gX0_partUnder_X2_bitOf_n32 rfl rfl rfl (hN.nw 9 rfl) (hts (.initialized RX2) (by decide +kernel)) (by decide +kernel) ⟨Nat.le_of_ble_eq_true rfl, Nat.le_of_ble_eq_true rfl⟩), hts (.static yX2_bitOf) (by decide +kernel), trivial⟩ ⟨cPre.blind, cPre.mk vP0 hKe vD0 hN⟩ rfl rfl hl.1 rfl (lv_room (Nat.le_of_ble_eq_true rfl)) dX0_partUnder_33 ⟨Nat.zero_le _, Nat.zero_le _⟩) hS hA (fun H locs hkp0 hS => ?_)
        replace hP := hkp0 _ hP
        refine lv_iconst (v := 1) hx hb dX0_partUnder_36 (by decide) ?_
        refine lv_icmp_ne (tgt := 49) hx hb dX0_partUnder_37 (by decide) (fun c_37_7 => ?_) (fun c_37_7 => ?_)
        · refine lv_iinc (v := nI (j6 + 1)) (lv' := [(5, .int (nI (j6 + 1))), (0, .ref a0), (1, .ref a3), (2, .int heads), (3, .int on), (4, .int under)]) hx hb dX0_partUnder_49 hl (k := 5) rfl (inc_nI j6) (by decide) rfl (fun ls hl => ?_)
          refine lv_goto (tgt := 6) hx hb dX0_partUnder_52 (by decide) ?_
          exact ih6 (j6 + 1) (by omega) under (itr_step he6 (by (unfold f_X0_partUnder__un_6; (try dsimp only); (try rw [if_pos c_22_6]); (try rw [if_neg c_37_7]); first | done | rfl)))   _ _ hP hS _ (lv_sub hl [1, 2, 3, 4, 5, 0] rfl)
        · refine lv_iload hx hb dX0_partUnder_40 (lv_at hl 4 rfl) ?_
          refine lv_aload_n hx hb dX0_partUnder_42 rfl (lv_at hl 1 rfl) ?_
          refine lv_iload hx hb dX0_partUnder_43 (lv_at hl 5 rfl) ?_
          refine wa_ild hx hb hK hP 3 2 rfl rfl j6 rfl (by omega) (by decide) dX0_partUnder_45 ?_
          refine lv_ior hx hb dX0_partUnder_46 ?_
          refine lv_istore (lv' := [(4, .int (under ||| (un j6))), (0, .ref a0), (1, .ref a3), (2, .int heads), (3, .int on), (5, .int (nI j6))]) hx hb dX0_partUnder_47 hl (by decide) rfl (fun ls hl => ?_)
          refine lv_iinc (v := nI (j6 + 1)) (lv' := [(5, .int (nI (j6 + 1))), (4, .int (under ||| (un j6))), (0, .ref a0), (1, .ref a3), (2, .int heads), (3, .int on)]) hx hb dX0_partUnder_49 hl (k := 5) rfl (inc_nI j6) (by decide) rfl (fun ls hl => ?_)
          refine lv_goto (tgt := 6) hx hb dX0_partUnder_52 (by decide) ?_
          exact ih6 (j6 + 1) (by omega) (under ||| (un j6)) (itr_step he6 (by (unfold f_X0_partUnder__un_6; (try dsimp only); (try rw [if_pos c_22_6]); (try rw [if_pos c_37_7]); first | done | rfl)))   _ _ hP hS _ (lv_sub hl [2, 3, 4, 5, 1, 0] rfl)
  exact lp6_1 n 0 (by omega) 0 (itr_zero _ _).symm   _ _ hP hS _ (lv_sub hl [2, 3, 4, 5, 1, 0] rfl)

def s_X0_ifsUnder (n : Nat) (hd : Nat → Int32) (fi : Nat → Int32) (heads : Int32) (on : Int32) : Int32 := (s_X0_partUnder__fi n hd fi heads on)
set_option maxHeartbeats 4000000 in
set_option maxRecDepth 100000 in
theorem c_X0_ifsUnder (l : Launch) (D : va_G) (a0 : Nat) (a1 : Nat) (a2 : Nat) (a3 : Nat) (b1 : ClassId) (b2 : ClassId) (b3 : ClassId) (n : Nat) (may : Int32) (hd : Nat → Int32) (fi : Nat → Int32) (un : Nat → Int32) (heads : Int32) (on : Int32) (hn : n ≤ 10) (sz : Nat) : Met l yX0_ifsUnder wsX0_ifsUnder ({ frames := 2, cells := 0, slots := 0, locals := 46 }) (va_Pc [.ref a0, .int heads, .int on] (cPre D (tB a0 a1 a2 a3 b1 b2 b3) (wB a0 a1 a2 a3 b1 b2 b3 (nI n) may hd fi un) sz)) (va_Qi (fun r (_ : Unit) => r = s_X0_ifsUnder n hd fi heads on) (fun _ _ => True) (fun q => sz ≤ q)) 0 0 (fun q => sz ≤ q) := by
  refine Met.ofW (cc := cX0_ifsUnder) (maxL := 3) (ret := (some .int)) (by decide) rfl ?_
  intro p e s m args below meth c s₁ B hml hv
  obtain ⟨rfl, hsz, hP, hK, hD, hN⟩ := hv
  have hx := B.exec
  have hb := B.bytes
  have hr := B.returns
  have hts := atoms_spec (ws := wsX0_ifsUnder) B.pre
  have hown : s.vm.findClass RX0 = some m.cls := findClass_of_methodNamed B.named
  have hlocks := B.notSynchronized
  have hinX0 : ∀ w ∈ wsX00, w ∈ wsX0_ifsUnder := fun w h => List.mem_cons_of_mem _ (List.mem_append_right _ h)
  subst hsz
  obtain ⟨A, hAe⟩ : ∃ A : Nat → Prop, A = (fun q : Nat => s.heap.size ≤ q) := ⟨_, rfl⟩
  have hA : ∀ q : Nat, s.heap.size ≤ q → A q := fun q h => by rw [hAe]; exact h
  have hS : va_S A s.heap s.heap [] := va_S.rf
  subst hAe
  have hl := lv_entry ([.ref a0, .int heads, .int on]) (n := 3) (Nat.le_of_ble_eq_true rfl)
  rw [lg_entry_eq]
  generalize (lg_sl ([.ref a0, .int heads, .int on]) ++ List.replicate (3 - (lg_sl ([.ref a0, .int heads, .int on])).length) Slot.unset).toArray = ls at hl ⊢
  replace hl : lv_has ls 3 [(0, .ref a0), (1, .int heads), (2, .int on)] := hl
  have hKe := hK.sub (tys' := []) [] rfl
  refine lv_aload_n hx hb dX0_ifsUnder_0 rfl (lv_at hl 0 rfl) ?_
  refine lv_aload_n hx hb dX0_ifsUnder_1 rfl (lv_at hl 0 rfl) ?_
  refine va_get (D := D) (ci := 0) (v := .ref a2) (C := RX0) (T := TX0) (N := 5) hx hb hts hinX0 hown hK hP 0 rfl rfl 3 (by decide) (hts (.fieldLink RX0 15 "HoldUnless$RuleBook" "ifs" "[I") (by decide +kernel)) (fun _ h9 => h9) rfl dX0_ifsUnder_2 ?_
  refine lv_iload_n hx hb dX0_ifsUnder_5 rfl (lv_at hl 1 rfl) ?_
  refine lv_iload_n hx hb dX0_ifsUnder_6 rfl (lv_at hl 2 rfl) ?_
  refine ro_i (D := D) (va_runV (As := [.ref a2, .int heads, .int on]) (rest := []) ⟨hx, hb, hml, hown, hts⟩ (c_X0_partUnder__fi l D a0 a1 a2 a3 b1 b2 b3 n may hd fi un heads on (by first | assumption | omega) _) (cwV 3 hts gX0_ifsUnder_X0_partUnder rfl rfl rfl (by decide +kernel) ⟨Nat.le_of_ble_eq_true rfl, Nat.le_of_ble_eq_true rfl⟩) ⟨cPre.blind, va_recv hK hP (ci := 0) (q0 := 0) rfl rfl, cPre.mk hP hK hD hN⟩ rfl rfl hl.1 rfl (lv_room (Nat.le_of_ble_eq_true rfl)) dX0_ifsUnder_7 ⟨Nat.zero_le _, Nat.zero_le _⟩) hS hA (fun H locs hkp0 hS => ?_)
  replace hP := hkp0 _ hP
  exact ro_iret hx hb hr hS hlocks (show s_X0_ifsUnder n hd fi heads on = (s_X0_partUnder__fi n hd fi heads on) from by (unfold s_X0_ifsUnder; (try dsimp only); first | done | rfl)).symm dX0_ifsUnder_10

def s_X0_unlessUnder (n : Nat) (hd : Nat → Int32) (un : Nat → Int32) (heads : Int32) (on : Int32) : Int32 := (s_X0_partUnder__un n hd un heads on)
set_option maxHeartbeats 4000000 in
set_option maxRecDepth 100000 in
theorem c_X0_unlessUnder (l : Launch) (D : va_G) (a0 : Nat) (a1 : Nat) (a2 : Nat) (a3 : Nat) (b1 : ClassId) (b2 : ClassId) (b3 : ClassId) (n : Nat) (may : Int32) (hd : Nat → Int32) (fi : Nat → Int32) (un : Nat → Int32) (heads : Int32) (on : Int32) (hn : n ≤ 10) (sz : Nat) : Met l yX0_unlessUnder wsX0_unlessUnder ({ frames := 2, cells := 0, slots := 0, locals := 46 }) (va_Pc [.ref a0, .int heads, .int on] (cPre D (tB a0 a1 a2 a3 b1 b2 b3) (wB a0 a1 a2 a3 b1 b2 b3 (nI n) may hd fi un) sz)) (va_Qi (fun r (_ : Unit) => r = s_X0_unlessUnder n hd un heads on) (fun _ _ => True) (fun q => sz ≤ q)) 0 0 (fun q => sz ≤ q) := by
  refine Met.ofW (cc := cX0_unlessUnder) (maxL := 3) (ret := (some .int)) (by decide) rfl ?_
  intro p e s m args below meth c s₁ B hml hv
  obtain ⟨rfl, hsz, hP, hK, hD, hN⟩ := hv
  have hx := B.exec
  have hb := B.bytes
  have hr := B.returns
  have hts := atoms_spec (ws := wsX0_unlessUnder) B.pre
  have hown : s.vm.findClass RX0 = some m.cls := findClass_of_methodNamed B.named
  have hlocks := B.notSynchronized
  have hinX0 : ∀ w ∈ wsX00, w ∈ wsX0_unlessUnder := fun w h => List.mem_cons_of_mem _ (List.mem_append_right _ h)
  subst hsz
  obtain ⟨A, hAe⟩ : ∃ A : Nat → Prop, A = (fun q : Nat => s.heap.size ≤ q) := ⟨_, rfl⟩
  have hA : ∀ q : Nat, s.heap.size ≤ q → A q := fun q h => by rw [hAe]; exact h
  have hS : va_S A s.heap s.heap [] := va_S.rf
  subst hAe
  have hl := lv_entry ([.ref a0, .int heads, .int on]) (n := 3) (Nat.le_of_ble_eq_true rfl)
  rw [lg_entry_eq]
  generalize (lg_sl ([.ref a0, .int heads, .int on]) ++ List.replicate (3 - (lg_sl ([.ref a0, .int heads, .int on])).length) Slot.unset).toArray = ls at hl ⊢
  replace hl : lv_has ls 3 [(0, .ref a0), (1, .int heads), (2, .int on)] := hl
  have hKe := hK.sub (tys' := []) [] rfl
  refine lv_aload_n hx hb dX0_unlessUnder_0 rfl (lv_at hl 0 rfl) ?_
  refine lv_aload_n hx hb dX0_unlessUnder_1 rfl (lv_at hl 0 rfl) ?_
  refine va_get (D := D) (ci := 0) (v := .ref a3) (C := RX0) (T := TX0) (N := 5) hx hb hts hinX0 hown hK hP 0 rfl rfl 4 (by decide) (hts (.fieldLink RX0 18 "HoldUnless$RuleBook" "unless" "[I") (by decide +kernel)) (fun _ h9 => h9) rfl dX0_unlessUnder_2 ?_
  refine lv_iload_n hx hb dX0_unlessUnder_5 rfl (lv_at hl 1 rfl) ?_
  refine lv_iload_n hx hb dX0_unlessUnder_6 rfl (lv_at hl 2 rfl) ?_
  refine ro_i (D := D) (va_runV (As := [.ref a3, .int heads, .int on]) (rest := []) ⟨hx, hb, hml, hown, hts⟩ (c_X0_partUnder__un l D a0 a1 a2 a3 b1 b2 b3 n may hd fi un heads on (by first | assumption | omega) _) (cwV 3 hts gX0_unlessUnder_X0_partUnder rfl rfl rfl (by decide +kernel) ⟨Nat.le_of_ble_eq_true rfl, Nat.le_of_ble_eq_true rfl⟩) ⟨cPre.blind, va_recv hK hP (ci := 0) (q0 := 0) rfl rfl, cPre.mk hP hK hD hN⟩ rfl rfl hl.1 rfl (lv_room (Nat.le_of_ble_eq_true rfl)) dX0_unlessUnder_7 ⟨Nat.zero_le _, Nat.zero_le _⟩) hS hA (fun H locs hkp0 hS => ?_)
  replace hP := hkp0 _ hP
  exact ro_iret hx hb hr hS hlocks (show s_X0_unlessUnder n hd un heads on = (s_X0_partUnder__un n hd un heads on) from by (unfold s_X0_unlessUnder; (try dsimp only); first | done | rfl)).symm dX0_unlessUnder_10

def f_X0_hangsByIf_12 (n : Nat) (hd : Nat → Int32) (fi : Nat → Int32) (on : Int32) (j12 : Nat) (st : Int32) : Int32 := match st with | reached => (reached ||| (s_X0_ifsUnder n hd fi reached on))
def s_X0_hangsByIf (n : Nat) (hd : Nat → Int32) (fi : Nat → Int32) (a : Int32) (on : Int32) : Int32 := (match itr (f_X0_hangsByIf_12 n hd fi on) (s_X0_ifsUnder n hd fi (1 <<< (a &&& 31)) on) 8 with | reached => (if (s_X2_bitOf reached a) = 1 then 1 else 0))
set_option maxHeartbeats 4000000 in
set_option maxRecDepth 100000 in
theorem c_X0_hangsByIf (l : Launch) (D : va_G) (a0 : Nat) (a1 : Nat) (a2 : Nat) (a3 : Nat) (b1 : ClassId) (b2 : ClassId) (b3 : ClassId) (n : Nat) (may : Int32) (hd : Nat → Int32) (fi : Nat → Int32) (un : Nat → Int32) (a : Int32) (on : Int32) (hn : n ≤ 10) (sz : Nat) : Met l yX0_hangsByIf wsX0_hangsByIf ({ frames := 3, cells := 0, slots := 0, locals := 68 }) (va_Pc [.ref a0, .int a, .int on] (cPre D (tB a0 a1 a2 a3 b1 b2 b3) (wB a0 a1 a2 a3 b1 b2 b3 (nI n) may hd fi un) sz)) (va_Qi (fun r (_ : Unit) => r = s_X0_hangsByIf n hd fi a on) (fun _ _ => True) (fun q => sz ≤ q)) 0 0 (fun q => sz ≤ q) := by
  refine Met.ofW (cc := cX0_hangsByIf) (maxL := 5) (ret := (some .boolean)) (by decide) rfl ?_
  intro p e s m args below meth c s₁ B hml hv
  obtain ⟨rfl, hsz, hP, hK, hD, hN⟩ := hv
  have hx := B.exec
  have hb := B.bytes
  have hr := B.returns
  have hts := atoms_spec (ws := wsX0_hangsByIf) B.pre
  have hown : s.vm.findClass RX0 = some m.cls := findClass_of_methodNamed B.named
  have hlocks := B.notSynchronized
  subst hsz
  obtain ⟨A, hAe⟩ : ∃ A : Nat → Prop, A = (fun q : Nat => s.heap.size ≤ q) := ⟨_, rfl⟩
  have hA : ∀ q : Nat, s.heap.size ≤ q → A q := fun q h => by rw [hAe]; exact h
  have hS : va_S A s.heap s.heap [] := va_S.rf
  subst hAe
  have hl := lv_entry ([.ref a0, .int a, .int on]) (n := 5) (Nat.le_of_ble_eq_true rfl)
  rw [lg_entry_eq]
  generalize (lg_sl ([.ref a0, .int a, .int on]) ++ List.replicate (5 - (lg_sl ([.ref a0, .int a, .int on])).length) Slot.unset).toArray = ls at hl ⊢
  replace hl : lv_has ls 5 [(0, .ref a0), (1, .int a), (2, .int on)] := hl
  have hKe := hK.sub (tys' := []) [] rfl
  refine lv_aload_n hx hb dX0_hangsByIf_0 rfl (lv_at hl 0 rfl) ?_
  refine lv_iconst (v := 1) hx hb dX0_hangsByIf_1 (by decide) ?_
  refine lv_iload_n hx hb dX0_hangsByIf_2 rfl (lv_at hl 1 rfl) ?_
  refine lv_ishl hx hb dX0_hangsByIf_3 ?_
  refine lv_iload_n hx hb dX0_hangsByIf_4 rfl (lv_at hl 2 rfl) ?_
  refine ro_i (D := D) (va_runV (As := [.int (1 <<< (a &&& 31)), .int on]) (rest := []) ⟨hx, hb, hml, hown, hts⟩ (c_X0_ifsUnder l D a0 a1 a2 a3 b1 b2 b3 n may hd fi un (1 <<< (a &&& 31)) on (by first | assumption | omega) _) (cwV 2 hts gX0_hangsByIf_X0_ifsUnder rfl rfl rfl (by decide +kernel) ⟨Nat.le_of_ble_eq_true rfl, Nat.le_of_ble_eq_true rfl⟩) ⟨cPre.blind, va_recv hK hP (ci := 0) (q0 := 0) rfl rfl, cPre.mk hP hK hD hN⟩ rfl rfl hl.1 rfl (lv_room (Nat.le_of_ble_eq_true rfl)) dX0_hangsByIf_5 ⟨Nat.zero_le _, Nat.zero_le _⟩) hS hA (fun H locs hkp0 hS => ?_)
  replace hP := hkp0 _ hP
  refine lv_istore_n (lv' := [(3, .int (s_X0_ifsUnder n hd fi (1 <<< (a &&& 31)) on)), (0, .ref a0), (1, .int a), (2, .int on)]) hx hb dX0_hangsByIf_8 rfl hl (by decide) rfl (fun ls hl => ?_)
  refine lv_iconst (v := 0) hx hb dX0_hangsByIf_9 (by decide) ?_
  refine lv_istore (lv' := [(4, .int 0), (3, .int (s_X0_ifsUnder n hd fi (1 <<< (a &&& 31)) on)), (0, .ref a0), (1, .int a), (2, .int on)]) hx hb dX0_hangsByIf_10 hl (by decide) rfl (fun ls hl => ?_)
  have lp12_1 : ∀ (z_1 j12 : Nat), j12 + z_1 = 8 → ∀ (reached : Int32), reached = itr (f_X0_hangsByIf_12 n hd fi on) (s_X0_ifsUnder n hd fi (1 <<< (a &&& 31)) on) j12 → ∀  (H : Heap) (locs : List Loc), va_P D vwCl (wB a0 a1 a2 a3 b1 b2 b3 (nI n) may hd fi un) H → va_S (fun q : Nat => s.heap.size ≤ q) s.heap H locs → ∀ ls : Array Slot, lv_has ls 5 [(0, .ref a0), (1, .int a), (2, .int on), (3, .int reached), (4, .int (nI j12))] → W p l e (headSpec wsX0_hangsByIf ({ frames := 3, cells := 0, slots := 0, locals := 68 })).room s m ([.ref a0, .int a, .int on] : List Value).toArray below meth c H locs 0 0 (MQ below (va_Qi (fun r (_ : Unit) => r = s_X0_hangsByIf n hd fi a on) (fun _ _ => True) (fun q => s.heap.size ≤ q)) ([.ref a0, .int a, .int on] : List Value).toArray s 0 0 (fun q => s.heap.size ≤ q)) (F0 m 12 ls []) := by
    intro z_1
    induction z_1 with
    | zero =>
      intro j12 hj12 reached he12   H locs hP hS ls hl
      obtain rfl : 8 = j12 := by omega
      refine lv_iload hx hb dX0_hangsByIf_12 (lv_at hl 4 rfl) ?_
      refine lv_bipush (v := 8) hx hb dX0_hangsByIf_14 (by decide) ?_
      refine lv_icmp_ge (tgt := 34) hx hb dX0_hangsByIf_16 (by decide) (fun _ => ?_) (fun hh_3 => absurd (nI_le (a := 8) (b := 8) (by omega) (by omega)) hh_3)
      refine lv_iload_n hx hb dX0_hangsByIf_34 rfl (lv_at hl 3 rfl) ?_
      refine lv_iload_n hx hb dX0_hangsByIf_35 rfl (lv_at hl 1 rfl) ?_
      refine ro_i (D := D) (va_runSN (As := [.int reached, .int a]) (rest := []) ⟨hx, hb, hml, hown, hts⟩ (c_X2_bitOf l D reached a  _) ⟨(va_cnB 2 hts gX0_hangsByIf_X2_bitOf_n32 rfl rfl rfl (hN.nw 9 rfl) (hts (.initialized RX2) (by decide +kernel)) (by decide +kernel) ⟨Nat.le_of_ble_eq_true rfl, Nat.le_of_ble_eq_true rfl⟩), hts (.static yX2_bitOf) (by decide +kernel), trivial⟩ ⟨cPre.blind, cPre.mk vP0 hKe vD0 hN⟩ rfl rfl hl.1 rfl (lv_room (Nat.le_of_ble_eq_true rfl)) dX0_hangsByIf_36 ⟨Nat.zero_le _, Nat.zero_le _⟩) hS hA (fun H locs hkp0 hS => ?_)
      replace hP := hkp0 _ hP
      refine lv_iconst (v := 1) hx hb dX0_hangsByIf_39 (by decide) ?_
      refine lv_icmp_ne (tgt := 47) hx hb dX0_hangsByIf_40 (by decide) (fun c_40_4 => ?_) (fun c_40_4 => ?_)
      · refine lv_iconst (v := 0) hx hb dX0_hangsByIf_47 (by decide) ?_
        exact ro_zret hx hb hr hS hlocks (show s_X0_hangsByIf n hd fi a on = 0 from by (unfold s_X0_hangsByIf; (try dsimp only); (try rw [← he12]); (try dsimp only); (try rw [if_neg c_40_4]); first | done | rfl)).symm (by decide +kernel) dX0_hangsByIf_48
      · refine lv_iconst (v := 1) hx hb dX0_hangsByIf_43 (by decide) ?_
        refine lv_goto (tgt := 48) hx hb dX0_hangsByIf_44 (by decide) ?_
        exact ro_zret hx hb hr hS hlocks (show s_X0_hangsByIf n hd fi a on = 1 from by (unfold s_X0_hangsByIf; (try dsimp only); (try rw [← he12]); (try dsimp only); (try rw [if_pos c_40_4]); first | done | rfl)).symm (by decide +kernel) dX0_hangsByIf_48
    | succ z_1 ih12 =>
      intro j12 hj12 reached he12   H locs hP hS ls hl
      refine lv_iload hx hb dX0_hangsByIf_12 (lv_at hl 4 rfl) ?_
      refine lv_bipush (v := 8) hx hb dX0_hangsByIf_14 (by decide) ?_
      refine lv_icmp_ge (tgt := 34) hx hb dX0_hangsByIf_16 (by decide) (fun hh_6 => absurd hh_6 (nI_ge (a := j12) (b := 8) (by omega) (by omega))) (fun _ => ?_)
      refine lv_iload_n hx hb dX0_hangsByIf_19 rfl (lv_at hl 3 rfl) ?_
      refine lv_aload_n hx hb dX0_hangsByIf_20 rfl (lv_at hl 0 rfl) ?_
      refine lv_iload_n hx hb dX0_hangsByIf_21 rfl (lv_at hl 3 rfl) ?_
      refine lv_iload_n hx hb dX0_hangsByIf_22 rfl (lv_at hl 2 rfl) ?_
      refine ro_i (D := D) (va_runV (As := [.int reached, .int on]) (rest := [.int reached]) ⟨hx, hb, hml, hown, hts⟩ (c_X0_ifsUnder l D a0 a1 a2 a3 b1 b2 b3 n may hd fi un reached on (by first | assumption | omega) _) (cwV 2 hts gX0_hangsByIf_X0_ifsUnder rfl rfl rfl (by decide +kernel) ⟨Nat.le_of_ble_eq_true rfl, Nat.le_of_ble_eq_true rfl⟩) ⟨cPre.blind, va_recv hK hP (ci := 0) (q0 := 0) rfl rfl, cPre.mk hP hK hD hN⟩ rfl rfl hl.1 rfl (lv_room (Nat.le_of_ble_eq_true rfl)) dX0_hangsByIf_23 ⟨Nat.zero_le _, Nat.zero_le _⟩) hS hA (fun H locs hkp0 hS => ?_)
      replace hP := hkp0 _ hP
      refine lv_ior hx hb dX0_hangsByIf_26 ?_
      refine lv_istore_n (lv' := [(3, .int (reached ||| (s_X0_ifsUnder n hd fi reached on))), (0, .ref a0), (1, .int a), (2, .int on), (4, .int (nI j12))]) hx hb dX0_hangsByIf_27 rfl hl (by decide) rfl (fun ls hl => ?_)
      refine lv_iinc (v := nI (j12 + 1)) (lv' := [(4, .int (nI (j12 + 1))), (3, .int (reached ||| (s_X0_ifsUnder n hd fi reached on))), (0, .ref a0), (1, .int a), (2, .int on)]) hx hb dX0_hangsByIf_28 hl (k := 4) rfl (inc_nI j12) (by decide) rfl (fun ls hl => ?_)
      refine lv_goto (tgt := 12) hx hb dX0_hangsByIf_31 (by decide) ?_
      exact ih12 (j12 + 1) (by omega) (reached ||| (s_X0_ifsUnder n hd fi reached on)) (itr_step he12 (by (unfold f_X0_hangsByIf_12; (try dsimp only); first | done | rfl)))   _ _ hP hS _ (lv_sub hl [2, 3, 4, 1, 0] rfl)
  exact lp12_1 8 0 (by omega) (s_X0_ifsUnder n hd fi (1 <<< (a &&& 31)) on) (itr_zero _ _).symm   _ _ hP hS _ (lv_sub hl [2, 3, 4, 1, 0] rfl)

def f_X0_isTangled_10 (n : Nat) (hd : Nat → Int32) (fi : Nat → Int32) (un : Nat → Int32) (on : Int32) (j10 : Nat) (st : Int32 × Int32) : Int32 × Int32 := match st with | (even, odd) => (((even ||| (s_X0_ifsUnder n hd fi even on)) ||| (s_X0_unlessUnder n hd un odd on)), (odd ||| ((s_X0_ifsUnder n hd fi odd on) ||| (s_X0_unlessUnder n hd un even on))))
def s_X0_isTangled (n : Nat) (hd : Nat → Int32) (fi : Nat → Int32) (un : Nat → Int32) (a : Int32) (on : Int32) : Int32 := (match itr (f_X0_isTangled_10 n hd fi un on) ((1 <<< (a &&& 31)), 0) 16 with | (even, odd) => (if (s_X2_bitOf odd a) = 1 then 1 else 0))
set_option maxHeartbeats 4000000 in
set_option maxRecDepth 100000 in
theorem c_X0_isTangled (l : Launch) (D : va_G) (a0 : Nat) (a1 : Nat) (a2 : Nat) (a3 : Nat) (b1 : ClassId) (b2 : ClassId) (b3 : ClassId) (n : Nat) (may : Int32) (hd : Nat → Int32) (fi : Nat → Int32) (un : Nat → Int32) (a : Int32) (on : Int32) (hn : n ≤ 10) (sz : Nat) : Met l yX0_isTangled wsX0_isTangled ({ frames := 3, cells := 0, slots := 0, locals := 68 }) (va_Pc [.ref a0, .int a, .int on] (cPre D (tB a0 a1 a2 a3 b1 b2 b3) (wB a0 a1 a2 a3 b1 b2 b3 (nI n) may hd fi un) sz)) (va_Qi (fun r (_ : Unit) => r = s_X0_isTangled n hd fi un a on) (fun _ _ => True) (fun q => sz ≤ q)) 0 0 (fun q => sz ≤ q) := by
  refine Met.ofW (cc := cX0_isTangled) (maxL := 7) (ret := (some .boolean)) (by decide) rfl ?_
  intro p e s m args below meth c s₁ B hml hv
  obtain ⟨rfl, hsz, hP, hK, hD, hN⟩ := hv
  have hx := B.exec
  have hb := B.bytes
  have hr := B.returns
  have hts := atoms_spec (ws := wsX0_isTangled) B.pre
  have hown : s.vm.findClass RX0 = some m.cls := findClass_of_methodNamed B.named
  have hlocks := B.notSynchronized
  subst hsz
  obtain ⟨A, hAe⟩ : ∃ A : Nat → Prop, A = (fun q : Nat => s.heap.size ≤ q) := ⟨_, rfl⟩
  have hA : ∀ q : Nat, s.heap.size ≤ q → A q := fun q h => by rw [hAe]; exact h
  have hS : va_S A s.heap s.heap [] := va_S.rf
  subst hAe
  have hl := lv_entry ([.ref a0, .int a, .int on]) (n := 7) (Nat.le_of_ble_eq_true rfl)
  rw [lg_entry_eq]
  generalize (lg_sl ([.ref a0, .int a, .int on]) ++ List.replicate (7 - (lg_sl ([.ref a0, .int a, .int on])).length) Slot.unset).toArray = ls at hl ⊢
  replace hl : lv_has ls 7 [(0, .ref a0), (1, .int a), (2, .int on)] := hl
  have hKe := hK.sub (tys' := []) [] rfl
  refine lv_iconst (v := 1) hx hb dX0_isTangled_0 (by decide) ?_
  refine lv_iload_n hx hb dX0_isTangled_1 rfl (lv_at hl 1 rfl) ?_
  refine lv_ishl hx hb dX0_isTangled_2 ?_
  refine lv_istore_n (lv' := [(3, .int (1 <<< (a &&& 31))), (0, .ref a0), (1, .int a), (2, .int on)]) hx hb dX0_isTangled_3 rfl hl (by decide) rfl (fun ls hl => ?_)
  refine lv_iconst (v := 0) hx hb dX0_isTangled_4 (by decide) ?_
  refine lv_istore (lv' := [(4, .int 0), (3, .int (1 <<< (a &&& 31))), (0, .ref a0), (1, .int a), (2, .int on)]) hx hb dX0_isTangled_5 hl (by decide) rfl (fun ls hl => ?_)
  refine lv_iconst (v := 0) hx hb dX0_isTangled_7 (by decide) ?_
  refine lv_istore (lv' := [(5, .int 0), (4, .int 0), (3, .int (1 <<< (a &&& 31))), (0, .ref a0), (1, .int a), (2, .int on)]) hx hb dX0_isTangled_8 hl (by decide) rfl (fun ls hl => ?_)
  have lp10_1 : ∀ (z_1 j10 : Nat), j10 + z_1 = 16 → ∀ (even : Int32) (odd : Int32), (even, odd) = itr (f_X0_isTangled_10 n hd fi un on) ((1 <<< (a &&& 31)), 0) j10 → ∀  (H : Heap) (locs : List Loc), va_P D vwCl (wB a0 a1 a2 a3 b1 b2 b3 (nI n) may hd fi un) H → va_S (fun q : Nat => s.heap.size ≤ q) s.heap H locs → ∀ ls : Array Slot, lv_has ls 7 [(0, .ref a0), (1, .int a), (2, .int on), (3, .int even), (4, .int odd), (5, .int (nI j10))] → W p l e (headSpec wsX0_isTangled ({ frames := 3, cells := 0, slots := 0, locals := 68 })).room s m ([.ref a0, .int a, .int on] : List Value).toArray below meth c H locs 0 0 (MQ below (va_Qi (fun r (_ : Unit) => r = s_X0_isTangled n hd fi un a on) (fun _ _ => True) (fun q => s.heap.size ≤ q)) ([.ref a0, .int a, .int on] : List Value).toArray s 0 0 (fun q => s.heap.size ≤ q)) (F0 m 10 ls []) := by
    intro z_1
    induction z_1 with
    | zero =>
      intro j10 hj10 even odd he10   H locs hP hS ls hl
      obtain rfl : 16 = j10 := by omega
      refine lv_iload hx hb dX0_isTangled_10 (lv_at hl 5 rfl) ?_
      refine lv_bipush (v := 16) hx hb dX0_isTangled_12 (by decide) ?_
      refine lv_icmp_ge (tgt := 63) hx hb dX0_isTangled_14 (by decide) (fun _ => ?_) (fun hh_3 => absurd (nI_le (a := 16) (b := 16) (by omega) (by omega)) hh_3)
      refine lv_iload hx hb dX0_isTangled_63 (lv_at hl 4 rfl) ?_
      refine lv_iload_n hx hb dX0_isTangled_65 rfl (lv_at hl 1 rfl) ?_
      refine ro_i (D := D) (va_runSN (As := [.int odd, .int a]) (rest := []) ⟨hx, hb, hml, hown, hts⟩ (c_X2_bitOf l D odd a  _) ⟨(va_cnB 2 hts gX0_isTangled_X2_bitOf_n32 rfl rfl rfl (hN.nw 9 rfl) (hts (.initialized RX2) (by decide +kernel)) (by decide +kernel) ⟨Nat.le_of_ble_eq_true rfl, Nat.le_of_ble_eq_true rfl⟩), hts (.static yX2_bitOf) (by decide +kernel), trivial⟩ ⟨cPre.blind, cPre.mk vP0 hKe vD0 hN⟩ rfl rfl hl.1 rfl (lv_room (Nat.le_of_ble_eq_true rfl)) dX0_isTangled_66 ⟨Nat.zero_le _, Nat.zero_le _⟩) hS hA (fun H locs hkp0 hS => ?_)
      replace hP := hkp0 _ hP
      refine lv_iconst (v := 1) hx hb dX0_isTangled_69 (by decide) ?_
      refine lv_icmp_ne (tgt := 77) hx hb dX0_isTangled_70 (by decide) (fun c_70_4 => ?_) (fun c_70_4 => ?_)
      · refine lv_iconst (v := 0) hx hb dX0_isTangled_77 (by decide) ?_
        exact ro_zret hx hb hr hS hlocks (show s_X0_isTangled n hd fi un a on = 0 from by (unfold s_X0_isTangled; (try dsimp only); (try rw [← he10]); (try dsimp only); (try rw [if_neg c_70_4]); first | done | rfl)).symm (by decide +kernel) dX0_isTangled_78
      · refine lv_iconst (v := 1) hx hb dX0_isTangled_73 (by decide) ?_
        refine lv_goto (tgt := 78) hx hb dX0_isTangled_74 (by decide) ?_
        exact ro_zret hx hb hr hS hlocks (show s_X0_isTangled n hd fi un a on = 1 from by (unfold s_X0_isTangled; (try dsimp only); (try rw [← he10]); (try dsimp only); (try rw [if_pos c_70_4]); first | done | rfl)).symm (by decide +kernel) dX0_isTangled_78
    | succ z_1 ih10 =>
      intro j10 hj10 even odd he10   H locs hP hS ls hl
      refine lv_iload hx hb dX0_isTangled_10 (lv_at hl 5 rfl) ?_
      refine lv_bipush (v := 16) hx hb dX0_isTangled_12 (by decide) ?_
      refine lv_icmp_ge (tgt := 63) hx hb dX0_isTangled_14 (by decide) (fun hh_6 => absurd hh_6 (nI_ge (a := j10) (b := 16) (by omega) (by omega))) (fun _ => ?_)
      refine lv_iload_n hx hb dX0_isTangled_17 rfl (lv_at hl 3 rfl) ?_
      refine lv_aload_n hx hb dX0_isTangled_18 rfl (lv_at hl 0 rfl) ?_
      refine lv_iload_n hx hb dX0_isTangled_19 rfl (lv_at hl 3 rfl) ?_
      refine lv_iload_n hx hb dX0_isTangled_20 rfl (lv_at hl 2 rfl) ?_
      refine ro_i (D := D) (va_runV (As := [.int even, .int on]) (rest := [.int even]) ⟨hx, hb, hml, hown, hts⟩ (c_X0_ifsUnder l D a0 a1 a2 a3 b1 b2 b3 n may hd fi un even on (by first | assumption | omega) _) (cwV 2 hts gX0_isTangled_X0_ifsUnder rfl rfl rfl (by decide +kernel) ⟨Nat.le_of_ble_eq_true rfl, Nat.le_of_ble_eq_true rfl⟩) ⟨cPre.blind, va_recv hK hP (ci := 0) (q0 := 0) rfl rfl, cPre.mk hP hK hD hN⟩ rfl rfl hl.1 rfl (lv_room (Nat.le_of_ble_eq_true rfl)) dX0_isTangled_21 ⟨Nat.zero_le _, Nat.zero_le _⟩) hS hA (fun H locs hkp0 hS => ?_)
      replace hP := hkp0 _ hP
      refine lv_ior hx hb dX0_isTangled_24 ?_
      refine lv_aload_n hx hb dX0_isTangled_25 rfl (lv_at hl 0 rfl) ?_
      refine lv_iload hx hb dX0_isTangled_26 (lv_at hl 4 rfl) ?_
      refine lv_iload_n hx hb dX0_isTangled_28 rfl (lv_at hl 2 rfl) ?_
      refine ro_i (D := D) (va_runV (As := [.int odd, .int on]) (rest := [.int (even ||| (s_X0_ifsUnder n hd fi even on))]) ⟨hx, hb, hml, hown, hts⟩ (c_X0_unlessUnder l D a0 a1 a2 a3 b1 b2 b3 n may hd fi un odd on (by first | assumption | omega) _) (cwV 2 hts gX0_isTangled_X0_unlessUnder rfl rfl rfl (by decide +kernel) ⟨Nat.le_of_ble_eq_true rfl, Nat.le_of_ble_eq_true rfl⟩) ⟨cPre.blind, va_recv hK hP (ci := 0) (q0 := 0) rfl rfl, cPre.mk hP hK hD hN⟩ rfl rfl hl.1 rfl (lv_room (Nat.le_of_ble_eq_true rfl)) dX0_isTangled_29 ⟨Nat.zero_le _, Nat.zero_le _⟩) hS hA (fun H locs hkp0 hS => ?_)
      replace hP := hkp0 _ hP
      refine lv_ior hx hb dX0_isTangled_32 ?_
      refine lv_istore (lv' := [(6, .int ((even ||| (s_X0_ifsUnder n hd fi even on)) ||| (s_X0_unlessUnder n hd un odd on))), (0, .ref a0), (1, .int a), (2, .int on), (3, .int even), (4, .int odd), (5, .int (nI j10))]) hx hb dX0_isTangled_33 hl (by decide) rfl (fun ls hl => ?_)
      refine lv_iload hx hb dX0_isTangled_35 (lv_at hl 5 rfl) ?_
      refine lv_aload_n hx hb dX0_isTangled_37 rfl (lv_at hl 1 rfl) ?_
      refine lv_iload hx hb dX0_isTangled_38 (lv_at hl 5 rfl) ?_
      refine lv_iload_n hx hb dX0_isTangled_40 rfl (lv_at hl 3 rfl) ?_
      refine ro_i (D := D) (va_runV (As := [.int odd, .int on]) (rest := [.int odd]) ⟨hx, hb, hml, hown, hts⟩ (c_X0_ifsUnder l D a0 a1 a2 a3 b1 b2 b3 n may hd fi un odd on (by first | assumption | omega) _) (cwV 2 hts gX0_isTangled_X0_ifsUnder rfl rfl rfl (by decide +kernel) ⟨Nat.le_of_ble_eq_true rfl, Nat.le_of_ble_eq_true rfl⟩) ⟨cPre.blind, va_recv hK hP (ci := 0) (q0 := 0) rfl rfl, cPre.mk hP hK hD hN⟩ rfl rfl hl.1 rfl (lv_room (Nat.le_of_ble_eq_true rfl)) dX0_isTangled_41 ⟨Nat.zero_le _, Nat.zero_le _⟩) hS hA (fun H locs hkp0 hS => ?_)
      replace hP := hkp0 _ hP
      refine lv_aload_n hx hb dX0_isTangled_44 rfl (lv_at hl 1 rfl) ?_
      refine lv_iload_n hx hb dX0_isTangled_45 rfl (lv_at hl 4 rfl) ?_
      refine lv_iload_n hx hb dX0_isTangled_46 rfl (lv_at hl 3 rfl) ?_
      refine ro_i (D := D) (va_runV (As := [.int even, .int on]) (rest := [.int (s_X0_ifsUnder n hd fi odd on), .int odd]) ⟨hx, hb, hml, hown, hts⟩ (c_X0_unlessUnder l D a0 a1 a2 a3 b1 b2 b3 n may hd fi un even on (by first | assumption | omega) _) (cwV 2 hts gX0_isTangled_X0_unlessUnder rfl rfl rfl (by decide +kernel) ⟨Nat.le_of_ble_eq_true rfl, Nat.le_of_ble_eq_true rfl⟩) ⟨cPre.blind, va_recv hK hP (ci := 0) (q0 := 0) rfl rfl, cPre.mk hP hK hD hN⟩ rfl rfl hl.1 rfl (lv_room (Nat.le_of_ble_eq_true rfl)) dX0_isTangled_47 ⟨Nat.zero_le _, Nat.zero_le _⟩) hS hA (fun H locs hkp0 hS => ?_)
      replace hP := hkp0 _ hP
      refine lv_ior hx hb dX0_isTangled_50 ?_
      refine lv_ior hx hb dX0_isTangled_51 ?_
      refine lv_istore (lv' := [(4, .int (odd ||| ((s_X0_ifsUnder n hd fi odd on) ||| (s_X0_unlessUnder n hd un even on)))), (6, .int ((even ||| (s_X0_ifsUnder n hd fi even on)) ||| (s_X0_unlessUnder n hd un odd on))), (0, .ref a0), (1, .int a), (2, .int on), (3, .int even), (5, .int (nI j10))]) hx hb dX0_isTangled_52 hl (by decide) rfl (fun ls hl => ?_)
      refine lv_iload hx hb dX0_isTangled_54 (lv_at hl 1 rfl) ?_
      refine lv_istore_n (lv' := [(3, .int ((even ||| (s_X0_ifsUnder n hd fi even on)) ||| (s_X0_unlessUnder n hd un odd on))), (4, .int (odd ||| ((s_X0_ifsUnder n hd fi odd on) ||| (s_X0_unlessUnder n hd un even on)))), (6, .int ((even ||| (s_X0_ifsUnder n hd fi even on)) ||| (s_X0_unlessUnder n hd un odd on))), (0, .ref a0), (1, .int a), (2, .int on), (5, .int (nI j10))]) hx hb dX0_isTangled_56 rfl hl (by decide) rfl (fun ls hl => ?_)
      refine lv_iinc (v := nI (j10 + 1)) (lv' := [(5, .int (nI (j10 + 1))), (3, .int ((even ||| (s_X0_ifsUnder n hd fi even on)) ||| (s_X0_unlessUnder n hd un odd on))), (4, .int (odd ||| ((s_X0_ifsUnder n hd fi odd on) ||| (s_X0_unlessUnder n hd un even on)))), (6, .int ((even ||| (s_X0_ifsUnder n hd fi even on)) ||| (s_X0_unlessUnder n hd un odd on))), (0, .ref a0), (1, .int a), (2, .int on)]) hx hb dX0_isTangled_57 hl (k := 6) rfl (inc_nI j10) (by decide) rfl (fun ls hl => ?_)
      refine lv_goto (tgt := 10) hx hb dX0_isTangled_60 (by decide) ?_
      exact ih10 (j10 + 1) (by omega) ((even ||| (s_X0_ifsUnder n hd fi even on)) ||| (s_X0_unlessUnder n hd un odd on)) (odd ||| ((s_X0_ifsUnder n hd fi odd on) ||| (s_X0_unlessUnder n hd un even on))) (itr_step he10 (by (unfold f_X0_isTangled_10; (try dsimp only); first | done | rfl)))   _ _ hP hS _ (lv_sub hl [4, 5, 6, 1, 2, 0] rfl)
  exact lp10_1 16 0 (by omega) (1 <<< (a &&& 31)) 0 (itr_zero _ _).symm   _ _ hP hS _ (lv_sub hl [3, 4, 5, 2, 1, 0] rfl)
end
section
theorem hasRoom_lt {n : Nat} (h : ¬ s_X0_hasRoom n = 0) (hn : n ≤ 10) : n < 10 := by
  unfold s_X0_hasRoom at h
  rcases Nat.lt_or_ge n 10 with q | q
  · exact q
  · rw [if_pos (show (10 : Int32) ≤ nI n from nI_le (a := 10) (b := n) q (by omega))] at h
    exact absurd rfl h

def s_X0_forgetAll : Nat × Int32 := (0, 0)
set_option maxHeartbeats 4000000 in
set_option maxRecDepth 100000 in
theorem c_X0_forgetAll (l : Launch) (D : va_G) (a0 : Nat) (a1 : Nat) (a2 : Nat) (a3 : Nat) (b1 : ClassId) (b2 : ClassId) (b3 : ClassId) (n : Nat) (may : Int32) (hd : Nat → Int32) (fi : Nat → Int32) (un : Nat → Int32) (sz : Nat) : Met l yX0_forgetAll wsX0_forgetAll ({ frames := 0, cells := 0, slots := 0, locals := 0 }) (va_Pc [.ref a0] (cPre D (tB a0 a1 a2 a3 b1 b2 b3) (wB a0 a1 a2 a3 b1 b2 b3 (nI n) may hd fi un) sz)) (va_Qv (fun (u : Nat × Int32) => (u.1, u.2) = s_X0_forgetAll ∧ (u.1 = 0)) (rwB D (fun u : Nat × Int32 => (wB a0 a1 a2 a3 b1 b2 b3 (nI u.1) u.2 hd fi un)) (va_A (wB a0 a1 a2 a3 b1 b2 b3 (nI n) may hd fi un) sz)) (va_A (wB a0 a1 a2 a3 b1 b2 b3 (nI n) may hd fi un) sz)) 0 0 (va_A (wB a0 a1 a2 a3 b1 b2 b3 (nI n) may hd fi un) sz) := by
  refine Met.ofW (cc := cX0_forgetAll) (maxL := 1) (ret := none) (by decide) rfl ?_
  intro p e s m args below meth c s₁ B hml hv
  obtain ⟨rfl, hsz, hP, hK, hD, hN⟩ := hv
  have hx := B.exec
  have hb := B.bytes
  have hr := B.returns
  have hts := atoms_spec (ws := wsX0_forgetAll) B.pre
  have hown : s.vm.findClass RX0 = some m.cls := findClass_of_methodNamed B.named
  have hlocks := B.notSynchronized
  have hinX0 : ∀ w ∈ wsX00, w ∈ wsX0_forgetAll := fun w h => List.mem_cons_of_mem _ (List.mem_append_right _ h)
  subst hsz
  replace hD := hD.self (sz := s.heap.size)
  generalize hAe : va_A (wB a0 a1 a2 a3 b1 b2 b3 (nI n) may hd fi un) s.heap.size = A at hD ⊢
  have hA : ∀ q : Nat, s.heap.size ≤ q → A q := fun q h => by rw [← hAe]; exact Or.inr h
  have hS : va_S A s.heap s.heap [] := va_S.rf
  have hl := lv_entry ([.ref a0]) (n := 1) (Nat.le_of_ble_eq_true rfl)
  rw [lg_entry_eq]
  generalize (lg_sl ([.ref a0]) ++ List.replicate (1 - (lg_sl ([.ref a0])).length) Slot.unset).toArray = ls at hl ⊢
  replace hl : lv_has ls 1 [(0, .ref a0)] := hl
  have hKe := hK.sub (tys' := []) [] rfl
  refine lv_aload_n hx hb dX0_forgetAll_0 rfl (lv_at hl 0 rfl) ?_
  refine lv_iconst (v := 0) hx hb dX0_forgetAll_1 (by decide) ?_
  refine va_put (D := D) (ci := 0) (v := .int 0) (ty := .int) (C := RX0) (T := TX0) (N := 5) hx hb hts hinX0 tyX0 tyX0_ok nmX0 hown hK hP hD hS 0 rfl rfl 0 (by decide) (hts (.fieldLink RX0 21 "HoldUnless$RuleBook" "size" "I") (by decide +kernel)) (fun _ h9 => h9) rfl (by decide +kernel) rfl rfl (Nat.le_of_ble_eq_true rfl) dX0_forgetAll_2 (fun H locs hP hD hS => ?_)
  replace hP : va_P D vwCl (wB a0 a1 a2 a3 b1 b2 b3 0 may hd fi un) H := hP
  replace hD : va_D A (wB a0 a1 a2 a3 b1 b2 b3 0 may hd fi un) := hD
  refine lv_aload_n hx hb dX0_forgetAll_5 rfl (lv_at hl 0 rfl) ?_
  refine lv_iconst (v := 0) hx hb dX0_forgetAll_6 (by decide) ?_
  refine va_put (D := D) (ci := 0) (v := .int 0) (ty := .int) (C := RX0) (T := TX0) (N := 5) hx hb hts hinX0 tyX0 tyX0_ok nmX0 hown hK hP hD hS 0 rfl rfl 1 (by decide) (hts (.fieldLink RX0 25 "HoldUnless$RuleBook" "may" "I") (by decide +kernel)) (fun _ h9 => h9) rfl (by decide +kernel) rfl rfl (Nat.le_of_ble_eq_true rfl) dX0_forgetAll_7 (fun H locs hP hD hS => ?_)
  replace hP : va_P D vwCl (wB a0 a1 a2 a3 b1 b2 b3 0 0 hd fi un) H := hP
  replace hD : va_D A (wB a0 a1 a2 a3 b1 b2 b3 0 0 hd fi un) := hD
  exact rw_vret hx hb hr hS hlocks (0, 0) ⟨(show s_X0_forgetAll = (0, 0) from by (unfold s_X0_forgetAll; (try dsimp only); first | done | rfl)).symm, (by first | assumption | omega | rfl)⟩ hP hD dX0_forgetAll_10

def s_X0_add (n : Nat) (hd : Nat → Int32) (fi : Nat → Int32) (un : Nat → Int32) (nh : Int32) (ni : Int32) (nu : Int32) : Nat × (Nat → Int32) × (Nat → Int32) × (Nat → Int32) := (if (s_X0_hasRoom n) = 0 then (n, hd, fi, un) else ((n + 1), (upd hd n nh), (upd fi n ni), (upd un n nu)))
set_option maxHeartbeats 4000000 in
set_option maxRecDepth 100000 in
theorem c_X0_add (l : Launch) (D : va_G) (a0 : Nat) (a1 : Nat) (a2 : Nat) (a3 : Nat) (b1 : ClassId) (b2 : ClassId) (b3 : ClassId) (n : Nat) (may : Int32) (hd : Nat → Int32) (fi : Nat → Int32) (un : Nat → Int32) (nh : Int32) (ni : Int32) (nu : Int32) (hn : n ≤ 10) (sz : Nat) : Met l yX0_add wsX0_add ({ frames := 1, cells := 0, slots := 0, locals := 20 }) (va_Pc [.ref a0, .int nh, .int ni, .int nu] (cPre D (tB a0 a1 a2 a3 b1 b2 b3) (wB a0 a1 a2 a3 b1 b2 b3 (nI n) may hd fi un) sz)) (va_Qv (fun (u : Nat × (Nat → Int32) × (Nat → Int32) × (Nat → Int32)) => (u.1, u.2.1, u.2.2.1, u.2.2.2) = s_X0_add n hd fi un nh ni nu ∧ (u.1 ≤ 10)) (rwB D (fun u : Nat × (Nat → Int32) × (Nat → Int32) × (Nat → Int32) => (wB a0 a1 a2 a3 b1 b2 b3 (nI u.1) may u.2.1 u.2.2.1 u.2.2.2)) (va_A (wB a0 a1 a2 a3 b1 b2 b3 (nI n) may hd fi un) sz)) (va_A (wB a0 a1 a2 a3 b1 b2 b3 (nI n) may hd fi un) sz)) 0 0 (va_A (wB a0 a1 a2 a3 b1 b2 b3 (nI n) may hd fi un) sz) := by
  refine Met.ofW (cc := cX0_add) (maxL := 4) (ret := none) (by decide) rfl ?_
  intro p e s m args below meth c s₁ B hml hv
  obtain ⟨rfl, hsz, hP, hK, hD, hN⟩ := hv
  have hx := B.exec
  have hb := B.bytes
  have hr := B.returns
  have hts := atoms_spec (ws := wsX0_add) B.pre
  have hown : s.vm.findClass RX0 = some m.cls := findClass_of_methodNamed B.named
  have hlocks := B.notSynchronized
  have hinX0 : ∀ w ∈ wsX00, w ∈ wsX0_add := fun w h => List.mem_cons_of_mem _ (List.mem_append_right _ h)
  subst hsz
  replace hD := hD.self (sz := s.heap.size)
  generalize hAe : va_A (wB a0 a1 a2 a3 b1 b2 b3 (nI n) may hd fi un) s.heap.size = A at hD ⊢
  have hA : ∀ q : Nat, s.heap.size ≤ q → A q := fun q h => by rw [← hAe]; exact Or.inr h
  have hS : va_S A s.heap s.heap [] := va_S.rf
  have hl := lv_entry ([.ref a0, .int nh, .int ni, .int nu]) (n := 4) (Nat.le_of_ble_eq_true rfl)
  rw [lg_entry_eq]
  generalize (lg_sl ([.ref a0, .int nh, .int ni, .int nu]) ++ List.replicate (4 - (lg_sl ([.ref a0, .int nh, .int ni, .int nu])).length) Slot.unset).toArray = ls at hl ⊢
  replace hl : lv_has ls 4 [(0, .ref a0), (1, .int nh), (2, .int ni), (3, .int nu)] := hl
  have hKe := hK.sub (tys' := []) [] rfl
  refine lv_aload_n hx hb dX0_add_0 rfl (lv_at hl 0 rfl) ?_
  refine ro_i (D := D) (va_runV (As := []) (rest := []) ⟨hx, hb, hml, hown, hts⟩ (c_X0_hasRoom l D a0 a1 a2 a3 b1 b2 b3 n may hd fi un (by first | assumption | omega) _) (cwV 0 hts gX0_add_X0_hasRoom rfl rfl rfl (by decide +kernel) ⟨Nat.le_of_ble_eq_true rfl, Nat.le_of_ble_eq_true rfl⟩) ⟨cPre.blind, va_recv hK hP (ci := 0) (q0 := 0) rfl rfl, cPre.mk hP hK hD hN⟩ rfl rfl hl.1 rfl (lv_room (Nat.le_of_ble_eq_true rfl)) dX0_add_1 ⟨Nat.zero_le _, Nat.zero_le _⟩) hS hA (fun H locs hkp0 hS => ?_)
  replace hP := hkp0 _ hP
  refine lv_if_eq (tgt := 47) hx hb dX0_add_4 (by decide) (fun c_4_1 => ?_) (fun c_4_1 => ?_)
  · exact rw_vret hx hb hr hS hlocks (n, hd, fi, un) ⟨(show s_X0_add n hd fi un nh ni nu = (n, hd, fi, un) from by (unfold s_X0_add; (try dsimp only); (try rw [if_pos c_4_1]); first | done | rfl)).symm, (by first | assumption | omega | rfl)⟩ hP hD dX0_add_47
  · have hroom : n < 10 := hasRoom_lt c_4_1 hn
    refine lv_aload_n hx hb dX0_add_7 rfl (lv_at hl 0 rfl) ?_
    refine va_get (D := D) (ci := 0) (v := .ref a1) (C := RX0) (T := TX0) (N := 5) hx hb hts hinX0 hown hK hP 0 rfl rfl 2 (by decide) (hts (.fieldLink RX0 9 "HoldUnless$RuleBook" "head" "[I") (by decide +kernel)) (fun _ h9 => h9) rfl dX0_add_8 ?_
    refine lv_aload_n hx hb dX0_add_11 rfl (lv_at hl 0 rfl) ?_
    refine va_get (D := D) (ci := 0) (v := .int (nI n)) (C := RX0) (T := TX0) (N := 5) hx hb hts hinX0 hown hK hP 0 rfl rfl 0 (by decide) (hts (.fieldLink RX0 21 "HoldUnless$RuleBook" "size" "I") (by decide +kernel)) (fun _ h9 => h9) rfl dX0_add_12 ?_
    refine lv_iload_n hx hb dX0_add_15 rfl (lv_at hl 1 rfl) ?_
    refine wa_ist hx hb hK hP hD hS 1 0 rfl rfl n rfl (by omega) (by decide) dX0_add_16 (fun H locs hP hD hS => ?_)
    replace hP : va_P D vwCl (wB a0 a1 a2 a3 b1 b2 b3 (nI n) may (upd hd n nh) fi un) H := hP
    replace hD : va_D A (wB a0 a1 a2 a3 b1 b2 b3 (nI n) may (upd hd n nh) fi un) := hD
    refine lv_aload_n hx hb dX0_add_17 rfl (lv_at hl 0 rfl) ?_
    refine va_get (D := D) (ci := 0) (v := .ref a2) (C := RX0) (T := TX0) (N := 5) hx hb hts hinX0 hown hK hP 0 rfl rfl 3 (by decide) (hts (.fieldLink RX0 15 "HoldUnless$RuleBook" "ifs" "[I") (by decide +kernel)) (fun _ h9 => h9) rfl dX0_add_18 ?_
    refine lv_aload_n hx hb dX0_add_21 rfl (lv_at hl 0 rfl) ?_
    refine va_get (D := D) (ci := 0) (v := .int (nI n)) (C := RX0) (T := TX0) (N := 5) hx hb hts hinX0 hown hK hP 0 rfl rfl 0 (by decide) (hts (.fieldLink RX0 21 "HoldUnless$RuleBook" "size" "I") (by decide +kernel)) (fun _ h9 => h9) rfl dX0_add_22 ?_
    refine lv_iload_n hx hb dX0_add_25 rfl (lv_at hl 2 rfl) ?_
    refine wa_ist hx hb hK hP hD hS 2 1 rfl rfl n rfl (by omega) (by decide) dX0_add_26 (fun H locs hP hD hS => ?_)
    replace hP : va_P D vwCl (wB a0 a1 a2 a3 b1 b2 b3 (nI n) may (upd hd n nh) (upd fi n ni) un) H := hP
    replace hD : va_D A (wB a0 a1 a2 a3 b1 b2 b3 (nI n) may (upd hd n nh) (upd fi n ni) un) := hD
    refine lv_aload_n hx hb dX0_add_27 rfl (lv_at hl 0 rfl) ?_
    refine va_get (D := D) (ci := 0) (v := .ref a3) (C := RX0) (T := TX0) (N := 5) hx hb hts hinX0 hown hK hP 0 rfl rfl 4 (by decide) (hts (.fieldLink RX0 18 "HoldUnless$RuleBook" "unless" "[I") (by decide +kernel)) (fun _ h9 => h9) rfl dX0_add_28 ?_
    refine lv_aload_n hx hb dX0_add_31 rfl (lv_at hl 0 rfl) ?_
    refine va_get (D := D) (ci := 0) (v := .int (nI n)) (C := RX0) (T := TX0) (N := 5) hx hb hts hinX0 hown hK hP 0 rfl rfl 0 (by decide) (hts (.fieldLink RX0 21 "HoldUnless$RuleBook" "size" "I") (by decide +kernel)) (fun _ h9 => h9) rfl dX0_add_32 ?_
    refine lv_iload_n hx hb dX0_add_35 rfl (lv_at hl 3 rfl) ?_
    refine wa_ist hx hb hK hP hD hS 3 2 rfl rfl n rfl (by omega) (by decide) dX0_add_36 (fun H locs hP hD hS => ?_)
    replace hP : va_P D vwCl (wB a0 a1 a2 a3 b1 b2 b3 (nI n) may (upd hd n nh) (upd fi n ni) (upd un n nu)) H := hP
    replace hD : va_D A (wB a0 a1 a2 a3 b1 b2 b3 (nI n) may (upd hd n nh) (upd fi n ni) (upd un n nu)) := hD
    refine lv_aload_n hx hb dX0_add_37 rfl (lv_at hl 0 rfl) ?_
    refine lv_dup hx hb dX0_add_38 rfl ?_
    refine va_get (D := D) (ci := 0) (v := .int (nI n)) (C := RX0) (T := TX0) (N := 5) hx hb hts hinX0 hown hK hP 0 rfl rfl 0 (by decide) (hts (.fieldLink RX0 21 "HoldUnless$RuleBook" "size" "I") (by decide +kernel)) (fun _ h9 => h9) rfl dX0_add_39 ?_
    refine lv_iconst (v := 1) hx hb dX0_add_42 (by decide) ?_
    refine lv_iadd hx hb dX0_add_43 ?_
    refine lv_cv (nI_1 n) ?_
    refine va_put (D := D) (ci := 0) (v := .int (nI (n + 1))) (ty := .int) (C := RX0) (T := TX0) (N := 5) hx hb hts hinX0 tyX0 tyX0_ok nmX0 hown hK hP hD hS 0 rfl rfl 0 (by decide) (hts (.fieldLink RX0 21 "HoldUnless$RuleBook" "size" "I") (by decide +kernel)) (fun _ h9 => h9) rfl (by decide +kernel) rfl rfl (Nat.le_of_ble_eq_true rfl) dX0_add_44 (fun H locs hP hD hS => ?_)
    replace hP : va_P D vwCl (wB a0 a1 a2 a3 b1 b2 b3 (nI (n + 1)) may (upd hd n nh) (upd fi n ni) (upd un n nu)) H := hP
    replace hD : va_D A (wB a0 a1 a2 a3 b1 b2 b3 (nI (n + 1)) may (upd hd n nh) (upd fi n ni) (upd un n nu)) := hD
    exact rw_vret hx hb hr hS hlocks ((n + 1), (upd hd n nh), (upd fi n ni), (upd un n nu)) ⟨(show s_X0_add n hd fi un nh ni nu = ((n + 1), (upd hd n nh), (upd fi n ni), (upd un n nu)) from by (unfold s_X0_add; (try dsimp only); (try rw [if_neg c_4_1]); first | done | rfl)).symm, (by first | assumption | omega | rfl)⟩ hP hD dX0_add_47
end
section
theorem dX1_init_0 : decode cX1_init 0 = .ok (.aload_n 0, 1) := by decide +kernel
theorem dX1_init_1 : decode cX1_init 1 = .ok (.invokespecial 3, 3) := by decide +kernel
theorem dX1_init_4 : decode cX1_init 4 = .ok (.aload_n 0, 1) := by decide +kernel
theorem dX1_init_5 : decode cX1_init 5 = .ok (.sipush 300, 3) := by decide +kernel
theorem dX1_init_8 : decode cX1_init 8 = .ok (.newarray .byte, 2) := by decide +kernel
theorem dX1_init_10 : decode cX1_init 10 = .ok (.putfield 9, 3) := by decide +kernel
theorem dX1_init_13 : decode cX1_init 13 = .ok (.return_, 1) := by decide +kernel
theorem dX1_append_0 : decode cX1_append 0 = .ok (.aload_n 0, 1) := by decide +kernel
theorem dX1_append_1 : decode cX1_append 1 = .ok (.getfield 15, 3) := by decide +kernel
theorem dX1_append_4 : decode cX1_append 4 = .ok (.ifCond .lt 33, 3) := by decide +kernel
theorem dX1_append_7 : decode cX1_append 7 = .ok (.aload_n 0, 1) := by decide +kernel
theorem dX1_append_8 : decode cX1_append 8 = .ok (.getfield 15, 3) := by decide +kernel
theorem dX1_append_11 : decode cX1_append 11 = .ok (.sipush 300, 3) := by decide +kernel
theorem dX1_append_14 : decode cX1_append 14 = .ok (.if_icmp .ge 23, 3) := by decide +kernel
theorem dX1_append_17 : decode cX1_append 17 = .ok (.aload_n 0, 1) := by decide +kernel
theorem dX1_append_18 : decode cX1_append 18 = .ok (.getfield 9, 3) := by decide +kernel
theorem dX1_append_21 : decode cX1_append 21 = .ok (.aload_n 0, 1) := by decide +kernel
theorem dX1_append_22 : decode cX1_append 22 = .ok (.getfield 15, 3) := by decide +kernel
theorem dX1_append_25 : decode cX1_append 25 = .ok (.iload_n 1, 1) := by decide +kernel
theorem dX1_append_26 : decode cX1_append 26 = .ok (.bastore, 1) := by decide +kernel
theorem dX1_append_27 : decode cX1_append 27 = .ok (.aload_n 0, 1) := by decide +kernel
theorem dX1_append_28 : decode cX1_append 28 = .ok (.dup, 1) := by decide +kernel
theorem dX1_append_29 : decode cX1_append 29 = .ok (.getfield 15, 3) := by decide +kernel
theorem dX1_append_32 : decode cX1_append 32 = .ok (.iconst 1, 1) := by decide +kernel
theorem dX1_append_33 : decode cX1_append 33 = .ok (.iadd, 1) := by decide +kernel
theorem dX1_append_34 : decode cX1_append 34 = .ok (.putfield 15, 3) := by decide +kernel
theorem dX1_append_37 : decode cX1_append 37 = .ok (.return_, 1) := by decide +kernel
set_option maxRecDepth 20000 in
theorem ggX1_readInto_X0_forgetAll : GoodIn wsX1_readInto wsX0_forgetAll := goodIn_r _ [6, 7, 8, 67, 68, 69, 70, 71] (by decide +kernel) (by decide +kernel)
set_option maxRecDepth 20000 in
theorem gX1_readInto_X0_forgetAll_n19 : GoodIn wsX1_readInto (wsX0_forgetAll) := ggX1_readInto_X0_forgetAll
set_option maxRecDepth 20000 in
theorem ggX1_readInto_X1_advance : GoodIn wsX1_readInto wsX1_advance := goodIn_r _ [13, 1, 14, 15, 2, 16, 17, 18, 12, 19, 20, 21, 22, 23, 24, 25, 26, 27, 28, 29, 30, 31, 32, 33, 34, 35, 36, 62, 63, 64, 65, 66] (by decide +kernel) (by decide +kernel)
set_option maxRecDepth 20000 in
theorem gX1_readInto_X1_advance : GoodIn wsX1_readInto (wsV RX1 27 RX1 yX1_advance wsX1_advance) := goodIn_app (goodIn_of _ (by decide +kernel)) ggX1_readInto_X1_advance
set_option maxRecDepth 20000 in
theorem ggX1_readInto_X1_readMay : GoodIn wsX1_readInto wsX1_readMay := goodIn_r _ [40, 2, 9, 10, 11, 12, 13, 1, 14, 15, 16, 17, 18, 19, 20, 21, 22, 23, 24, 25, 26, 27, 28, 29, 30, 31, 32, 33, 34, 35, 36, 41, 42, 43, 44, 45, 46, 47, 62, 63, 64, 65, 66, 67, 68, 69, 70, 71] (by decide +kernel) (by decide +kernel)
set_option maxRecDepth 20000 in
theorem gX1_readInto_X1_readMay : GoodIn wsX1_readInto (wsV RX1 33 RX1 yX1_readMay wsX1_readMay) := goodIn_app (goodIn_of _ (by decide +kernel)) ggX1_readInto_X1_readMay
set_option maxRecDepth 20000 in
theorem ggX1_readInto_X1_readRule : GoodIn wsX1_readInto wsX1_readRule := goodIn_r _ [51, 2, 45, 46, 47, 52, 4, 53, 54, 7, 9, 10, 11, 12, 13, 1, 14, 15, 16, 17, 18, 19, 20, 21, 22, 23, 24, 25, 26, 27, 28, 29, 30, 31, 32, 33, 34, 35, 36, 41, 42, 43, 44, 55, 56, 57, 58, 59, 60, 61, 62, 63, 64, 65, 66, 67, 68, 69, 70, 71] (by decide +kernel) (by decide +kernel)
set_option maxRecDepth 20000 in
theorem gX1_readInto_X1_readRule : GoodIn wsX1_readInto (wsV RX1 37 RX1 yX1_readRule wsX1_readRule) := goodIn_app (goodIn_of _ (by decide +kernel)) ggX1_readInto_X1_readRule
theorem dX1_readInto_0 : decode cX1_readInto 0 = .ok (.aload_n 1, 1) := by decide +kernel
theorem dX1_readInto_1 : decode cX1_readInto 1 = .ok (.invokevirtual 19, 3) := by decide +kernel
theorem dX1_readInto_4 : decode cX1_readInto 4 = .ok (.aload_n 0, 1) := by decide +kernel
theorem dX1_readInto_5 : decode cX1_readInto 5 = .ok (.iconst 0, 1) := by decide +kernel
theorem dX1_readInto_6 : decode cX1_readInto 6 = .ok (.putfield 24, 3) := by decide +kernel
theorem dX1_readInto_9 : decode cX1_readInto 9 = .ok (.aload_n 0, 1) := by decide +kernel
theorem dX1_readInto_10 : decode cX1_readInto 10 = .ok (.invokevirtual 27, 3) := by decide +kernel
theorem dX1_readInto_13 : decode cX1_readInto 13 = .ok (.iconst 0, 1) := by decide +kernel
theorem dX1_readInto_14 : decode cX1_readInto 14 = .ok (.istore_n 2, 1) := by decide +kernel
theorem dX1_readInto_15 : decode cX1_readInto 15 = .ok (.aload_n 0, 1) := by decide +kernel
theorem dX1_readInto_16 : decode cX1_readInto 16 = .ok (.getfield 30, 3) := by decide +kernel
theorem dX1_readInto_19 : decode cX1_readInto 19 = .ok (.bipush 13, 2) := by decide +kernel
theorem dX1_readInto_21 : decode cX1_readInto 21 = .ok (.if_icmp .eq 46, 3) := by decide +kernel
theorem dX1_readInto_24 : decode cX1_readInto 24 = .ok (.iload_n 2, 1) := by decide +kernel
theorem dX1_readInto_25 : decode cX1_readInto 25 = .ok (.sipush 300, 3) := by decide +kernel
theorem dX1_readInto_28 : decode cX1_readInto 28 = .ok (.if_icmp .ge 39, 3) := by decide +kernel
theorem dX1_readInto_31 : decode cX1_readInto 31 = .ok (.aload_n 0, 1) := by decide +kernel
theorem dX1_readInto_32 : decode cX1_readInto 32 = .ok (.getfield 30, 3) := by decide +kernel
theorem dX1_readInto_35 : decode cX1_readInto 35 = .ok (.bipush 11, 2) := by decide +kernel
theorem dX1_readInto_37 : decode cX1_readInto 37 = .ok (.if_icmp .ne 11, 3) := by decide +kernel
theorem dX1_readInto_40 : decode cX1_readInto 40 = .ok (.aload_n 0, 1) := by decide +kernel
theorem dX1_readInto_41 : decode cX1_readInto 41 = .ok (.aload_n 1, 1) := by decide +kernel
theorem dX1_readInto_42 : decode cX1_readInto 42 = .ok (.invokevirtual 33, 3) := by decide +kernel
theorem dX1_readInto_45 : decode cX1_readInto 45 = .ok (.goto 8, 3) := by decide +kernel
theorem dX1_readInto_48 : decode cX1_readInto 48 = .ok (.aload_n 0, 1) := by decide +kernel
theorem dX1_readInto_49 : decode cX1_readInto 49 = .ok (.aload_n 1, 1) := by decide +kernel
theorem dX1_readInto_50 : decode cX1_readInto 50 = .ok (.invokevirtual 37, 3) := by decide +kernel
theorem dX1_readInto_53 : decode cX1_readInto 53 = .ok (.istore_n 3, 1) := by decide +kernel
theorem dX1_readInto_54 : decode cX1_readInto 54 = .ok (.iload_n 3, 1) := by decide +kernel
theorem dX1_readInto_55 : decode cX1_readInto 55 = .ok (.ifCond .ne 6, 3) := by decide +kernel
theorem dX1_readInto_58 : decode cX1_readInto 58 = .ok (.bipush (-9), 2) := by decide +kernel
theorem dX1_readInto_60 : decode cX1_readInto 60 = .ok (.ireturn, 1) := by decide +kernel
theorem dX1_readInto_61 : decode cX1_readInto 61 = .ok (.iinc 2 1, 3) := by decide +kernel
theorem dX1_readInto_64 : decode cX1_readInto 64 = .ok (.goto (-49), 3) := by decide +kernel
theorem dX1_readInto_67 : decode cX1_readInto 67 = .ok (.iload_n 2, 1) := by decide +kernel
theorem dX1_readInto_68 : decode cX1_readInto 68 = .ok (.ireturn, 1) := by decide +kernel
set_option maxRecDepth 20000 in
theorem ggX1_readMay_X1_advance : GoodIn wsX1_readMay wsX1_advance := goodIn_r _ [6, 7, 8, 9, 1, 10, 11, 12, 5, 13, 14, 15, 16, 17, 18, 19, 20, 21, 22, 23, 24, 25, 26, 27, 28, 29, 30, 38, 39, 40, 41, 42] (by decide +kernel) (by decide +kernel)
set_option maxRecDepth 20000 in
theorem gX1_readMay_X1_advance : GoodIn wsX1_readMay (wsV RX1 27 RX1 yX1_advance wsX1_advance) := goodIn_app (goodIn_of _ (by decide +kernel)) ggX1_readMay_X1_advance
set_option maxRecDepth 20000 in
theorem ggX1_readMay_X1_readSentences : GoodIn wsX1_readMay wsX1_readSentences := goodIn_r _ [34, 1, 35, 36, 37, 2, 3, 4, 5, 6, 7, 8, 9, 10, 11, 12, 13, 14, 15, 16, 17, 18, 19, 20, 21, 22, 23, 24, 25, 26, 27, 28, 29, 30, 38, 39, 40, 41, 42] (by decide +kernel) (by decide +kernel)
set_option maxRecDepth 20000 in
theorem gX1_readMay_X1_readSentences : GoodIn wsX1_readMay (wsV RX1 40 RX1 yX1_readSentences wsX1_readSentences) := goodIn_app (goodIn_of _ (by decide +kernel)) ggX1_readMay_X1_readSentences
theorem dX1_readMay_0 : decode cX1_readMay 0 = .ok (.aload_n 0, 1) := by decide +kernel
theorem dX1_readMay_1 : decode cX1_readMay 1 = .ok (.invokevirtual 27, 3) := by decide +kernel
theorem dX1_readMay_4 : decode cX1_readMay 4 = .ok (.aload_n 0, 1) := by decide +kernel
theorem dX1_readMay_5 : decode cX1_readMay 5 = .ok (.invokevirtual 40, 3) := by decide +kernel
theorem dX1_readMay_8 : decode cX1_readMay 8 = .ok (.istore_n 2, 1) := by decide +kernel
theorem dX1_readMay_9 : decode cX1_readMay 9 = .ok (.iload_n 2, 1) := by decide +kernel
theorem dX1_readMay_10 : decode cX1_readMay 10 = .ok (.ifCond .eq 12, 3) := by decide +kernel
theorem dX1_readMay_13 : decode cX1_readMay 13 = .ok (.aload_n 0, 1) := by decide +kernel
theorem dX1_readMay_14 : decode cX1_readMay 14 = .ok (.getfield 30, 3) := by decide +kernel
theorem dX1_readMay_17 : decode cX1_readMay 17 = .ok (.bipush 12, 2) := by decide +kernel
theorem dX1_readMay_19 : decode cX1_readMay 19 = .ok (.if_icmp .eq 5, 3) := by decide +kernel
theorem dX1_readMay_22 : decode cX1_readMay 22 = .ok (.iconst 0, 1) := by decide +kernel
theorem dX1_readMay_23 : decode cX1_readMay 23 = .ok (.ireturn, 1) := by decide +kernel
theorem dX1_readMay_24 : decode cX1_readMay 24 = .ok (.aload_n 1, 1) := by decide +kernel
theorem dX1_readMay_25 : decode cX1_readMay 25 = .ok (.dup, 1) := by decide +kernel
theorem dX1_readMay_26 : decode cX1_readMay 26 = .ok (.getfield 44, 3) := by decide +kernel
theorem dX1_readMay_29 : decode cX1_readMay 29 = .ok (.iload_n 2, 1) := by decide +kernel
theorem dX1_readMay_30 : decode cX1_readMay 30 = .ok (.ior, 1) := by decide +kernel
theorem dX1_readMay_31 : decode cX1_readMay 31 = .ok (.putfield 44, 3) := by decide +kernel
theorem dX1_readMay_34 : decode cX1_readMay 34 = .ok (.aload_n 0, 1) := by decide +kernel
theorem dX1_readMay_35 : decode cX1_readMay 35 = .ok (.invokevirtual 27, 3) := by decide +kernel
theorem dX1_readMay_38 : decode cX1_readMay 38 = .ok (.iconst 1, 1) := by decide +kernel
theorem dX1_readMay_39 : decode cX1_readMay 39 = .ok (.ireturn, 1) := by decide +kernel
set_option maxRecDepth 20000 in
theorem ggX1_readRule_X2_isSentence : GoodIn wsX1_readRule wsX2_isSentence := goodIn_r _ [4] (by decide +kernel) (by decide +kernel)
set_option maxRecDepth 20000 in
theorem gX1_readRule_X2_isSentence_n47 : GoodIn wsX1_readRule (wsX2_isSentence) := ggX1_readRule_X2_isSentence
set_option maxRecDepth 20000 in
theorem ggX1_readRule_X0_hasRoom : GoodIn wsX1_readRule wsX0_hasRoom := goodIn_r _ [8, 9, 55, 56, 57, 58, 59] (by decide +kernel) (by decide +kernel)
set_option maxRecDepth 20000 in
theorem gX1_readRule_X0_hasRoom_n51 : GoodIn wsX1_readRule (wsX0_hasRoom) := ggX1_readRule_X0_hasRoom
set_option maxRecDepth 20000 in
theorem ggX1_readRule_X1_advance : GoodIn wsX1_readRule wsX1_advance := goodIn_r _ [14, 15, 16, 17, 1, 18, 19, 20, 13, 21, 22, 23, 24, 25, 26, 27, 28, 29, 30, 31, 32, 33, 34, 35, 36, 37, 38, 50, 51, 52, 53, 54] (by decide +kernel) (by decide +kernel)
set_option maxRecDepth 20000 in
theorem gX1_readRule_X1_advance : GoodIn wsX1_readRule (wsV RX1 27 RX1 yX1_advance wsX1_advance) := goodIn_app (goodIn_of _ (by decide +kernel)) ggX1_readRule_X1_advance
set_option maxRecDepth 20000 in
theorem ggX1_readRule_X1_readSentences : GoodIn wsX1_readRule wsX1_readSentences := goodIn_r _ [42, 1, 2, 3, 4, 10, 11, 12, 13, 14, 15, 16, 17, 18, 19, 20, 21, 22, 23, 24, 25, 26, 27, 28, 29, 30, 31, 32, 33, 34, 35, 36, 37, 38, 50, 51, 52, 53, 54] (by decide +kernel) (by decide +kernel)
set_option maxRecDepth 20000 in
theorem gX1_readRule_X1_readSentences : GoodIn wsX1_readRule (wsV RX1 40 RX1 yX1_readSentences wsX1_readSentences) := goodIn_app (goodIn_of _ (by decide +kernel)) ggX1_readRule_X1_readSentences
set_option maxRecDepth 20000 in
theorem ggX1_readRule_X0_add : GoodIn wsX1_readRule wsX0_add := goodIn_r _ [45, 46, 9, 47, 48, 49, 5, 7, 6, 8, 55, 56, 57, 58, 59] (by decide +kernel) (by decide +kernel)
set_option maxRecDepth 20000 in
theorem gX1_readRule_X0_add_n55 : GoodIn wsX1_readRule (wsX0_add) := ggX1_readRule_X0_add
theorem dX1_readRule_0 : decode cX1_readRule 0 = .ok (.aload_n 0, 1) := by decide +kernel
theorem dX1_readRule_1 : decode cX1_readRule 1 = .ok (.getfield 30, 3) := by decide +kernel
theorem dX1_readRule_4 : decode cX1_readRule 4 = .ok (.bipush 10, 2) := by decide +kernel
theorem dX1_readRule_6 : decode cX1_readRule 6 = .ok (.if_icmp .eq 13, 3) := by decide +kernel
theorem dX1_readRule_9 : decode cX1_readRule 9 = .ok (.aload_n 0, 1) := by decide +kernel
theorem dX1_readRule_10 : decode cX1_readRule 10 = .ok (.getfield 30, 3) := by decide +kernel
theorem dX1_readRule_13 : decode cX1_readRule 13 = .ok (.invokestatic 47, 3) := by decide +kernel
theorem dX1_readRule_16 : decode cX1_readRule 16 = .ok (.ifCond .eq 7, 3) := by decide +kernel
theorem dX1_readRule_19 : decode cX1_readRule 19 = .ok (.iconst 1, 1) := by decide +kernel
theorem dX1_readRule_20 : decode cX1_readRule 20 = .ok (.goto 4, 3) := by decide +kernel
theorem dX1_readRule_23 : decode cX1_readRule 23 = .ok (.iconst 0, 1) := by decide +kernel
theorem dX1_readRule_24 : decode cX1_readRule 24 = .ok (.istore_n 2, 1) := by decide +kernel
theorem dX1_readRule_25 : decode cX1_readRule 25 = .ok (.iload_n 2, 1) := by decide +kernel
theorem dX1_readRule_26 : decode cX1_readRule 26 = .ok (.ifCond .eq 10, 3) := by decide +kernel
theorem dX1_readRule_29 : decode cX1_readRule 29 = .ok (.aload_n 1, 1) := by decide +kernel
theorem dX1_readRule_30 : decode cX1_readRule 30 = .ok (.invokevirtual 51, 3) := by decide +kernel
theorem dX1_readRule_33 : decode cX1_readRule 33 = .ok (.ifCond .ne 5, 3) := by decide +kernel
theorem dX1_readRule_36 : decode cX1_readRule 36 = .ok (.iconst 0, 1) := by decide +kernel
theorem dX1_readRule_37 : decode cX1_readRule 37 = .ok (.ireturn, 1) := by decide +kernel
theorem dX1_readRule_38 : decode cX1_readRule 38 = .ok (.aload_n 0, 1) := by decide +kernel
theorem dX1_readRule_39 : decode cX1_readRule 39 = .ok (.getfield 30, 3) := by decide +kernel
theorem dX1_readRule_42 : decode cX1_readRule 42 = .ok (.bipush 10, 2) := by decide +kernel
theorem dX1_readRule_44 : decode cX1_readRule 44 = .ok (.if_icmp .ne 8, 3) := by decide +kernel
theorem dX1_readRule_47 : decode cX1_readRule 47 = .ok (.bipush 8, 2) := by decide +kernel
theorem dX1_readRule_49 : decode cX1_readRule 49 = .ok (.goto 7, 3) := by decide +kernel
theorem dX1_readRule_52 : decode cX1_readRule 52 = .ok (.aload_n 0, 1) := by decide +kernel
theorem dX1_readRule_53 : decode cX1_readRule 53 = .ok (.getfield 30, 3) := by decide +kernel
theorem dX1_readRule_56 : decode cX1_readRule 56 = .ok (.istore_n 3, 1) := by decide +kernel
theorem dX1_readRule_57 : decode cX1_readRule 57 = .ok (.iconst 0, 1) := by decide +kernel
theorem dX1_readRule_58 : decode cX1_readRule 58 = .ok (.istore 4, 2) := by decide +kernel
theorem dX1_readRule_60 : decode cX1_readRule 60 = .ok (.iconst 0, 1) := by decide +kernel
theorem dX1_readRule_61 : decode cX1_readRule 61 = .ok (.istore 5, 2) := by decide +kernel
theorem dX1_readRule_63 : decode cX1_readRule 63 = .ok (.aload_n 0, 1) := by decide +kernel
theorem dX1_readRule_64 : decode cX1_readRule 64 = .ok (.invokevirtual 27, 3) := by decide +kernel
theorem dX1_readRule_67 : decode cX1_readRule 67 = .ok (.aload_n 0, 1) := by decide +kernel
theorem dX1_readRule_68 : decode cX1_readRule 68 = .ok (.getfield 30, 3) := by decide +kernel
theorem dX1_readRule_71 : decode cX1_readRule 71 = .ok (.bipush 8, 2) := by decide +kernel
theorem dX1_readRule_73 : decode cX1_readRule 73 = .ok (.if_icmp .ne 20, 3) := by decide +kernel
theorem dX1_readRule_76 : decode cX1_readRule 76 = .ok (.aload_n 0, 1) := by decide +kernel
theorem dX1_readRule_77 : decode cX1_readRule 77 = .ok (.invokevirtual 27, 3) := by decide +kernel
theorem dX1_readRule_80 : decode cX1_readRule 80 = .ok (.aload_n 0, 1) := by decide +kernel
theorem dX1_readRule_81 : decode cX1_readRule 81 = .ok (.invokevirtual 40, 3) := by decide +kernel
theorem dX1_readRule_84 : decode cX1_readRule 84 = .ok (.istore 4, 2) := by decide +kernel
theorem dX1_readRule_86 : decode cX1_readRule 86 = .ok (.iload 4, 2) := by decide +kernel
theorem dX1_readRule_88 : decode cX1_readRule 88 = .ok (.ifCond .ne 5, 3) := by decide +kernel
theorem dX1_readRule_91 : decode cX1_readRule 91 = .ok (.iconst 0, 1) := by decide +kernel
theorem dX1_readRule_92 : decode cX1_readRule 92 = .ok (.ireturn, 1) := by decide +kernel
theorem dX1_readRule_93 : decode cX1_readRule 93 = .ok (.aload_n 0, 1) := by decide +kernel
theorem dX1_readRule_94 : decode cX1_readRule 94 = .ok (.getfield 30, 3) := by decide +kernel
theorem dX1_readRule_97 : decode cX1_readRule 97 = .ok (.bipush 9, 2) := by decide +kernel
theorem dX1_readRule_99 : decode cX1_readRule 99 = .ok (.if_icmp .ne 20, 3) := by decide +kernel
theorem dX1_readRule_102 : decode cX1_readRule 102 = .ok (.aload_n 0, 1) := by decide +kernel
theorem dX1_readRule_103 : decode cX1_readRule 103 = .ok (.invokevirtual 27, 3) := by decide +kernel
theorem dX1_readRule_106 : decode cX1_readRule 106 = .ok (.aload_n 0, 1) := by decide +kernel
theorem dX1_readRule_107 : decode cX1_readRule 107 = .ok (.invokevirtual 40, 3) := by decide +kernel
theorem dX1_readRule_110 : decode cX1_readRule 110 = .ok (.istore 5, 2) := by decide +kernel
theorem dX1_readRule_112 : decode cX1_readRule 112 = .ok (.iload 5, 2) := by decide +kernel
theorem dX1_readRule_114 : decode cX1_readRule 114 = .ok (.ifCond .ne 5, 3) := by decide +kernel
theorem dX1_readRule_117 : decode cX1_readRule 117 = .ok (.iconst 0, 1) := by decide +kernel
theorem dX1_readRule_118 : decode cX1_readRule 118 = .ok (.ireturn, 1) := by decide +kernel
theorem dX1_readRule_119 : decode cX1_readRule 119 = .ok (.iload_n 3, 1) := by decide +kernel
theorem dX1_readRule_120 : decode cX1_readRule 120 = .ok (.bipush 8, 2) := by decide +kernel
theorem dX1_readRule_122 : decode cX1_readRule 122 = .ok (.if_icmp .ne 17, 3) := by decide +kernel
theorem dX1_readRule_125 : decode cX1_readRule 125 = .ok (.iload 4, 2) := by decide +kernel
theorem dX1_readRule_127 : decode cX1_readRule 127 = .ok (.ifCond .ne 12, 3) := by decide +kernel
theorem dX1_readRule_130 : decode cX1_readRule 130 = .ok (.iload 5, 2) := by decide +kernel
theorem dX1_readRule_132 : decode cX1_readRule 132 = .ok (.ifCond .ne 7, 3) := by decide +kernel
theorem dX1_readRule_135 : decode cX1_readRule 135 = .ok (.iconst 1, 1) := by decide +kernel
theorem dX1_readRule_136 : decode cX1_readRule 136 = .ok (.goto 4, 3) := by decide +kernel
theorem dX1_readRule_139 : decode cX1_readRule 139 = .ok (.iconst 0, 1) := by decide +kernel
theorem dX1_readRule_140 : decode cX1_readRule 140 = .ok (.istore 6, 2) := by decide +kernel
theorem dX1_readRule_142 : decode cX1_readRule 142 = .ok (.iload 6, 2) := by decide +kernel
theorem dX1_readRule_144 : decode cX1_readRule 144 = .ok (.ifCond .ne 12, 3) := by decide +kernel
theorem dX1_readRule_147 : decode cX1_readRule 147 = .ok (.aload_n 0, 1) := by decide +kernel
theorem dX1_readRule_148 : decode cX1_readRule 148 = .ok (.getfield 30, 3) := by decide +kernel
theorem dX1_readRule_151 : decode cX1_readRule 151 = .ok (.bipush 12, 2) := by decide +kernel
theorem dX1_readRule_153 : decode cX1_readRule 153 = .ok (.if_icmp .eq 5, 3) := by decide +kernel
theorem dX1_readRule_156 : decode cX1_readRule 156 = .ok (.iconst 0, 1) := by decide +kernel
theorem dX1_readRule_157 : decode cX1_readRule 157 = .ok (.ireturn, 1) := by decide +kernel
theorem dX1_readRule_158 : decode cX1_readRule 158 = .ok (.aload_n 1, 1) := by decide +kernel
theorem dX1_readRule_159 : decode cX1_readRule 159 = .ok (.iload_n 3, 1) := by decide +kernel
theorem dX1_readRule_160 : decode cX1_readRule 160 = .ok (.iload 4, 2) := by decide +kernel
theorem dX1_readRule_162 : decode cX1_readRule 162 = .ok (.iload 5, 2) := by decide +kernel
theorem dX1_readRule_164 : decode cX1_readRule 164 = .ok (.invokevirtual 55, 3) := by decide +kernel
theorem dX1_readRule_167 : decode cX1_readRule 167 = .ok (.aload_n 0, 1) := by decide +kernel
theorem dX1_readRule_168 : decode cX1_readRule 168 = .ok (.invokevirtual 27, 3) := by decide +kernel
theorem dX1_readRule_171 : decode cX1_readRule 171 = .ok (.iconst 1, 1) := by decide +kernel
theorem dX1_readRule_172 : decode cX1_readRule 172 = .ok (.ireturn, 1) := by decide +kernel
set_option maxRecDepth 20000 in
theorem ggX1_readSentences_X2_isSentence : GoodIn wsX1_readSentences wsX2_isSentence := goodIn_r _ [4] (by decide +kernel) (by decide +kernel)
set_option maxRecDepth 20000 in
theorem gX1_readSentences_X2_isSentence_n47 : GoodIn wsX1_readSentences (wsX2_isSentence) := ggX1_readSentences_X2_isSentence
set_option maxRecDepth 20000 in
theorem ggX1_readSentences_X1_advance : GoodIn wsX1_readSentences wsX1_advance := goodIn_r _ [9, 10, 11, 12, 1, 13, 14, 15, 8, 16, 17, 18, 19, 20, 21, 22, 23, 24, 25, 26, 27, 28, 29, 30, 31, 32, 33, 34, 35, 36, 37, 38] (by decide +kernel) (by decide +kernel)
set_option maxRecDepth 20000 in
theorem gX1_readSentences_X1_advance : GoodIn wsX1_readSentences (wsV RX1 27 RX1 yX1_advance wsX1_advance) := goodIn_app (goodIn_of _ (by decide +kernel)) ggX1_readSentences_X1_advance
theorem dX1_readSentences_0 : decode cX1_readSentences 0 = .ok (.iconst 0, 1) := by decide +kernel
theorem dX1_readSentences_1 : decode cX1_readSentences 1 = .ok (.istore_n 1, 1) := by decide +kernel
theorem dX1_readSentences_2 : decode cX1_readSentences 2 = .ok (.iconst 0, 1) := by decide +kernel
theorem dX1_readSentences_3 : decode cX1_readSentences 3 = .ok (.istore_n 2, 1) := by decide +kernel
theorem dX1_readSentences_4 : decode cX1_readSentences 4 = .ok (.iload_n 2, 1) := by decide +kernel
theorem dX1_readSentences_5 : decode cX1_readSentences 5 = .ok (.sipush 300, 3) := by decide +kernel
theorem dX1_readSentences_8 : decode cX1_readSentences 8 = .ok (.if_icmp .ge 32, 3) := by decide +kernel
theorem dX1_readSentences_11 : decode cX1_readSentences 11 = .ok (.aload_n 0, 1) := by decide +kernel
theorem dX1_readSentences_12 : decode cX1_readSentences 12 = .ok (.getfield 30, 3) := by decide +kernel
theorem dX1_readSentences_15 : decode cX1_readSentences 15 = .ok (.invokestatic 47, 3) := by decide +kernel
theorem dX1_readSentences_18 : decode cX1_readSentences 18 = .ok (.ifCond .eq 22, 3) := by decide +kernel
theorem dX1_readSentences_21 : decode cX1_readSentences 21 = .ok (.iload_n 1, 1) := by decide +kernel
theorem dX1_readSentences_22 : decode cX1_readSentences 22 = .ok (.iconst 1, 1) := by decide +kernel
theorem dX1_readSentences_23 : decode cX1_readSentences 23 = .ok (.aload_n 0, 1) := by decide +kernel
theorem dX1_readSentences_24 : decode cX1_readSentences 24 = .ok (.getfield 30, 3) := by decide +kernel
theorem dX1_readSentences_27 : decode cX1_readSentences 27 = .ok (.ishl, 1) := by decide +kernel
theorem dX1_readSentences_28 : decode cX1_readSentences 28 = .ok (.ior, 1) := by decide +kernel
theorem dX1_readSentences_29 : decode cX1_readSentences 29 = .ok (.istore_n 1, 1) := by decide +kernel
theorem dX1_readSentences_30 : decode cX1_readSentences 30 = .ok (.aload_n 0, 1) := by decide +kernel
theorem dX1_readSentences_31 : decode cX1_readSentences 31 = .ok (.invokevirtual 27, 3) := by decide +kernel
theorem dX1_readSentences_34 : decode cX1_readSentences 34 = .ok (.iinc 2 1, 3) := by decide +kernel
theorem dX1_readSentences_37 : decode cX1_readSentences 37 = .ok (.goto (-33), 3) := by decide +kernel
theorem dX1_readSentences_40 : decode cX1_readSentences 40 = .ok (.iload_n 1, 1) := by decide +kernel
theorem dX1_readSentences_41 : decode cX1_readSentences 41 = .ok (.ireturn, 1) := by decide +kernel
set_option maxRecDepth 20000 in
theorem ggX1_advance_X1_byteAt : GoodIn wsX1_advance wsX1_byteAt := goodIn_r _ [9, 10, 27, 28, 29, 30, 31] (by decide +kernel) (by decide +kernel)
set_option maxRecDepth 20000 in
theorem gX1_advance_X1_byteAt : GoodIn wsX1_advance (wsV RX1 59 RX1 yX1_byteAt wsX1_byteAt) := goodIn_app (goodIn_of _ (by decide +kernel)) ggX1_advance_X1_byteAt
set_option maxRecDepth 20000 in
theorem ggX1_advance_X1_isLetter : GoodIn wsX1_advance wsX1_isLetter := goodIn_r _ [13] (by decide +kernel) (by decide +kernel)
set_option maxRecDepth 20000 in
theorem gX1_advance_X1_isLetter : GoodIn wsX1_advance (va_wsS RX1 66 yX1_isLetter wsX1_isLetter) := goodIn_app (goodIn_of _ (by decide +kernel)) ggX1_advance_X1_isLetter
set_option maxRecDepth 20000 in
theorem ggX1_advance_X1_readWord : GoodIn wsX1_advance wsX1_readWord := goodIn_r _ [17, 1, 2, 4, 5, 6, 7, 8, 9, 10, 11, 12, 13, 18, 19, 20, 21, 22, 23, 24, 25, 26, 27, 28, 29, 30, 31] (by decide +kernel) (by decide +kernel)
set_option maxRecDepth 20000 in
theorem gX1_advance_X1_readWord : GoodIn wsX1_advance (wsV RX1 69 RX1 yX1_readWord wsX1_readWord) := goodIn_app (goodIn_of _ (by decide +kernel)) ggX1_advance_X1_readWord
theorem dX1_advance_0 : decode cX1_advance 0 = .ok (.aload_n 0, 1) := by decide +kernel
theorem dX1_advance_1 : decode cX1_advance 1 = .ok (.getfield 24, 3) := by decide +kernel
theorem dX1_advance_4 : decode cX1_advance 4 = .ok (.aload_n 0, 1) := by decide +kernel
theorem dX1_advance_5 : decode cX1_advance 5 = .ok (.getfield 15, 3) := by decide +kernel
theorem dX1_advance_8 : decode cX1_advance 8 = .ok (.if_icmp .ge 29, 3) := by decide +kernel
theorem dX1_advance_11 : decode cX1_advance 11 = .ok (.aload_n 0, 1) := by decide +kernel
theorem dX1_advance_12 : decode cX1_advance 12 = .ok (.aload_n 0, 1) := by decide +kernel
theorem dX1_advance_13 : decode cX1_advance 13 = .ok (.getfield 24, 3) := by decide +kernel
theorem dX1_advance_16 : decode cX1_advance 16 = .ok (.invokevirtual 59, 3) := by decide +kernel
theorem dX1_advance_19 : decode cX1_advance 19 = .ok (.bipush 32, 2) := by decide +kernel
theorem dX1_advance_21 : decode cX1_advance 21 = .ok (.if_icmp .ne 16, 3) := by decide +kernel
theorem dX1_advance_24 : decode cX1_advance 24 = .ok (.aload_n 0, 1) := by decide +kernel
theorem dX1_advance_25 : decode cX1_advance 25 = .ok (.dup, 1) := by decide +kernel
theorem dX1_advance_26 : decode cX1_advance 26 = .ok (.getfield 24, 3) := by decide +kernel
theorem dX1_advance_29 : decode cX1_advance 29 = .ok (.iconst 1, 1) := by decide +kernel
theorem dX1_advance_30 : decode cX1_advance 30 = .ok (.iadd, 1) := by decide +kernel
theorem dX1_advance_31 : decode cX1_advance 31 = .ok (.putfield 24, 3) := by decide +kernel
theorem dX1_advance_34 : decode cX1_advance 34 = .ok (.goto (-34), 3) := by decide +kernel
theorem dX1_advance_37 : decode cX1_advance 37 = .ok (.aload_n 0, 1) := by decide +kernel
theorem dX1_advance_38 : decode cX1_advance 38 = .ok (.aload_n 0, 1) := by decide +kernel
theorem dX1_advance_39 : decode cX1_advance 39 = .ok (.getfield 24, 3) := by decide +kernel
theorem dX1_advance_42 : decode cX1_advance 42 = .ok (.putfield 63, 3) := by decide +kernel
theorem dX1_advance_45 : decode cX1_advance 45 = .ok (.aload_n 0, 1) := by decide +kernel
theorem dX1_advance_46 : decode cX1_advance 46 = .ok (.getfield 24, 3) := by decide +kernel
theorem dX1_advance_49 : decode cX1_advance 49 = .ok (.aload_n 0, 1) := by decide +kernel
theorem dX1_advance_50 : decode cX1_advance 50 = .ok (.getfield 15, 3) := by decide +kernel
theorem dX1_advance_53 : decode cX1_advance 53 = .ok (.if_icmp .lt 12, 3) := by decide +kernel
theorem dX1_advance_56 : decode cX1_advance 56 = .ok (.aload_n 0, 1) := by decide +kernel
theorem dX1_advance_57 : decode cX1_advance 57 = .ok (.bipush 13, 2) := by decide +kernel
theorem dX1_advance_59 : decode cX1_advance 59 = .ok (.putfield 30, 3) := by decide +kernel
theorem dX1_advance_62 : decode cX1_advance 62 = .ok (.goto 62, 3) := by decide +kernel
theorem dX1_advance_65 : decode cX1_advance 65 = .ok (.aload_n 0, 1) := by decide +kernel
theorem dX1_advance_66 : decode cX1_advance 66 = .ok (.aload_n 0, 1) := by decide +kernel
theorem dX1_advance_67 : decode cX1_advance 67 = .ok (.getfield 24, 3) := by decide +kernel
theorem dX1_advance_70 : decode cX1_advance 70 = .ok (.invokevirtual 59, 3) := by decide +kernel
theorem dX1_advance_73 : decode cX1_advance 73 = .ok (.bipush 59, 2) := by decide +kernel
theorem dX1_advance_75 : decode cX1_advance 75 = .ok (.if_icmp .ne 22, 3) := by decide +kernel
theorem dX1_advance_78 : decode cX1_advance 78 = .ok (.aload_n 0, 1) := by decide +kernel
theorem dX1_advance_79 : decode cX1_advance 79 = .ok (.bipush 12, 2) := by decide +kernel
theorem dX1_advance_81 : decode cX1_advance 81 = .ok (.putfield 30, 3) := by decide +kernel
theorem dX1_advance_84 : decode cX1_advance 84 = .ok (.aload_n 0, 1) := by decide +kernel
theorem dX1_advance_85 : decode cX1_advance 85 = .ok (.dup, 1) := by decide +kernel
theorem dX1_advance_86 : decode cX1_advance 86 = .ok (.getfield 24, 3) := by decide +kernel
theorem dX1_advance_89 : decode cX1_advance 89 = .ok (.iconst 1, 1) := by decide +kernel
theorem dX1_advance_90 : decode cX1_advance 90 = .ok (.iadd, 1) := by decide +kernel
theorem dX1_advance_91 : decode cX1_advance 91 = .ok (.putfield 24, 3) := by decide +kernel
theorem dX1_advance_94 : decode cX1_advance 94 = .ok (.goto 30, 3) := by decide +kernel
theorem dX1_advance_97 : decode cX1_advance 97 = .ok (.aload_n 0, 1) := by decide +kernel
theorem dX1_advance_98 : decode cX1_advance 98 = .ok (.aload_n 0, 1) := by decide +kernel
theorem dX1_advance_99 : decode cX1_advance 99 = .ok (.getfield 24, 3) := by decide +kernel
theorem dX1_advance_102 : decode cX1_advance 102 = .ok (.invokevirtual 59, 3) := by decide +kernel
theorem dX1_advance_105 : decode cX1_advance 105 = .ok (.invokestatic 66, 3) := by decide +kernel
theorem dX1_advance_108 : decode cX1_advance 108 = .ok (.ifCond .eq 10, 3) := by decide +kernel
theorem dX1_advance_111 : decode cX1_advance 111 = .ok (.aload_n 0, 1) := by decide +kernel
theorem dX1_advance_112 : decode cX1_advance 112 = .ok (.invokevirtual 69, 3) := by decide +kernel
theorem dX1_advance_115 : decode cX1_advance 115 = .ok (.goto 9, 3) := by decide +kernel
theorem dX1_advance_118 : decode cX1_advance 118 = .ok (.aload_n 0, 1) := by decide +kernel
theorem dX1_advance_119 : decode cX1_advance 119 = .ok (.bipush 14, 2) := by decide +kernel
theorem dX1_advance_121 : decode cX1_advance 121 = .ok (.putfield 30, 3) := by decide +kernel
theorem dX1_advance_124 : decode cX1_advance 124 = .ok (.return_, 1) := by decide +kernel
set_option maxRecDepth 20000 in
theorem ggX1_readWord_X1_byteAt : GoodIn wsX1_readWord wsX1_byteAt := goodIn_r _ [8, 9, 22, 23, 24, 25, 26] (by decide +kernel) (by decide +kernel)
set_option maxRecDepth 20000 in
theorem gX1_readWord_X1_byteAt : GoodIn wsX1_readWord (wsV RX1 59 RX1 yX1_byteAt wsX1_byteAt) := goodIn_app (goodIn_of _ (by decide +kernel)) ggX1_readWord_X1_byteAt
set_option maxRecDepth 20000 in
theorem ggX1_readWord_X1_isLetter : GoodIn wsX1_readWord wsX1_isLetter := goodIn_r _ [12] (by decide +kernel) (by decide +kernel)
set_option maxRecDepth 20000 in
theorem gX1_readWord_X1_isLetter : GoodIn wsX1_readWord (va_wsS RX1 66 yX1_isLetter wsX1_isLetter) := goodIn_app (goodIn_of _ (by decide +kernel)) ggX1_readWord_X1_isLetter
set_option maxRecDepth 20000 in
theorem ggX1_readWord_X1_tokenOf : GoodIn wsX1_readWord wsX1_tokenOf := goodIn_r _ [15, 16, 17, 18, 19, 20, 21] (by decide +kernel) (by decide +kernel)
set_option maxRecDepth 20000 in
theorem gX1_readWord_X1_tokenOf : GoodIn wsX1_readWord (va_wsS RX1 72 yX1_tokenOf wsX1_tokenOf) := goodIn_app (goodIn_of _ (by decide +kernel)) ggX1_readWord_X1_tokenOf
theorem dX1_readWord_0 : decode cX1_readWord 0 = .ok (.lconst 0, 1) := by decide +kernel
theorem dX1_readWord_1 : decode cX1_readWord 1 = .ok (.lstore_n 1, 1) := by decide +kernel
theorem dX1_readWord_2 : decode cX1_readWord 2 = .ok (.aload_n 0, 1) := by decide +kernel
theorem dX1_readWord_3 : decode cX1_readWord 3 = .ok (.getfield 24, 3) := by decide +kernel
theorem dX1_readWord_6 : decode cX1_readWord 6 = .ok (.aload_n 0, 1) := by decide +kernel
theorem dX1_readWord_7 : decode cX1_readWord 7 = .ok (.getfield 15, 3) := by decide +kernel
theorem dX1_readWord_10 : decode cX1_readWord 10 = .ok (.if_icmp .ge 45, 3) := by decide +kernel
theorem dX1_readWord_13 : decode cX1_readWord 13 = .ok (.aload_n 0, 1) := by decide +kernel
theorem dX1_readWord_14 : decode cX1_readWord 14 = .ok (.aload_n 0, 1) := by decide +kernel
theorem dX1_readWord_15 : decode cX1_readWord 15 = .ok (.getfield 24, 3) := by decide +kernel
theorem dX1_readWord_18 : decode cX1_readWord 18 = .ok (.invokevirtual 59, 3) := by decide +kernel
theorem dX1_readWord_21 : decode cX1_readWord 21 = .ok (.invokestatic 66, 3) := by decide +kernel
theorem dX1_readWord_24 : decode cX1_readWord 24 = .ok (.ifCond .eq 31, 3) := by decide +kernel
theorem dX1_readWord_27 : decode cX1_readWord 27 = .ok (.lload_n 1, 1) := by decide +kernel
theorem dX1_readWord_28 : decode cX1_readWord 28 = .ok (.bipush 8, 2) := by decide +kernel
theorem dX1_readWord_30 : decode cX1_readWord 30 = .ok (.lshl, 1) := by decide +kernel
theorem dX1_readWord_31 : decode cX1_readWord 31 = .ok (.aload_n 0, 1) := by decide +kernel
theorem dX1_readWord_32 : decode cX1_readWord 32 = .ok (.aload_n 0, 1) := by decide +kernel
theorem dX1_readWord_33 : decode cX1_readWord 33 = .ok (.getfield 24, 3) := by decide +kernel
theorem dX1_readWord_36 : decode cX1_readWord 36 = .ok (.invokevirtual 59, 3) := by decide +kernel
theorem dX1_readWord_39 : decode cX1_readWord 39 = .ok (.i2l, 1) := by decide +kernel
theorem dX1_readWord_40 : decode cX1_readWord 40 = .ok (.lor, 1) := by decide +kernel
theorem dX1_readWord_41 : decode cX1_readWord 41 = .ok (.lstore_n 1, 1) := by decide +kernel
theorem dX1_readWord_42 : decode cX1_readWord 42 = .ok (.aload_n 0, 1) := by decide +kernel
theorem dX1_readWord_43 : decode cX1_readWord 43 = .ok (.dup, 1) := by decide +kernel
theorem dX1_readWord_44 : decode cX1_readWord 44 = .ok (.getfield 24, 3) := by decide +kernel
theorem dX1_readWord_47 : decode cX1_readWord 47 = .ok (.iconst 1, 1) := by decide +kernel
theorem dX1_readWord_48 : decode cX1_readWord 48 = .ok (.iadd, 1) := by decide +kernel
theorem dX1_readWord_49 : decode cX1_readWord 49 = .ok (.putfield 24, 3) := by decide +kernel
theorem dX1_readWord_52 : decode cX1_readWord 52 = .ok (.goto (-50), 3) := by decide +kernel
theorem dX1_readWord_55 : decode cX1_readWord 55 = .ok (.aload_n 0, 1) := by decide +kernel
theorem dX1_readWord_56 : decode cX1_readWord 56 = .ok (.lload_n 1, 1) := by decide +kernel
theorem dX1_readWord_57 : decode cX1_readWord 57 = .ok (.invokestatic 72, 3) := by decide +kernel
theorem dX1_readWord_60 : decode cX1_readWord 60 = .ok (.putfield 30, 3) := by decide +kernel
theorem dX1_readWord_63 : decode cX1_readWord 63 = .ok (.return_, 1) := by decide +kernel
theorem dX1_tokenOf_0 : decode cX1_tokenOf 0 = .ok (.lload_n 0, 1) := by decide +kernel
theorem dX1_tokenOf_1 : decode cX1_tokenOf 1 = .ok (.ldc2_w 76, 3) := by decide +kernel
theorem dX1_tokenOf_4 : decode cX1_tokenOf 4 = .ok (.lcmp, 1) := by decide +kernel
theorem dX1_tokenOf_5 : decode cX1_tokenOf 5 = .ok (.ifCond .lt 18, 3) := by decide +kernel
theorem dX1_tokenOf_8 : decode cX1_tokenOf 8 = .ok (.lload_n 0, 1) := by decide +kernel
theorem dX1_tokenOf_9 : decode cX1_tokenOf 9 = .ok (.ldc2_w 78, 3) := by decide +kernel
theorem dX1_tokenOf_12 : decode cX1_tokenOf 12 = .ok (.lcmp, 1) := by decide +kernel
theorem dX1_tokenOf_13 : decode cX1_tokenOf 13 = .ok (.ifCond .ge 10, 3) := by decide +kernel
theorem dX1_tokenOf_16 : decode cX1_tokenOf 16 = .ok (.lload_n 0, 1) := by decide +kernel
theorem dX1_tokenOf_17 : decode cX1_tokenOf 17 = .ok (.ldc2_w 76, 3) := by decide +kernel
theorem dX1_tokenOf_20 : decode cX1_tokenOf 20 = .ok (.lsub, 1) := by decide +kernel
theorem dX1_tokenOf_21 : decode cX1_tokenOf 21 = .ok (.l2i, 1) := by decide +kernel
theorem dX1_tokenOf_22 : decode cX1_tokenOf 22 = .ok (.ireturn, 1) := by decide +kernel
theorem dX1_tokenOf_23 : decode cX1_tokenOf 23 = .ok (.lload_n 0, 1) := by decide +kernel
theorem dX1_tokenOf_24 : decode cX1_tokenOf 24 = .ok (.ldc2_w 80, 3) := by decide +kernel
theorem dX1_tokenOf_27 : decode cX1_tokenOf 27 = .ok (.lcmp, 1) := by decide +kernel
theorem dX1_tokenOf_28 : decode cX1_tokenOf 28 = .ok (.ifCond .ne 6, 3) := by decide +kernel
theorem dX1_tokenOf_31 : decode cX1_tokenOf 31 = .ok (.bipush 8, 2) := by decide +kernel
theorem dX1_tokenOf_33 : decode cX1_tokenOf 33 = .ok (.ireturn, 1) := by decide +kernel
theorem dX1_tokenOf_34 : decode cX1_tokenOf 34 = .ok (.lload_n 0, 1) := by decide +kernel
theorem dX1_tokenOf_35 : decode cX1_tokenOf 35 = .ok (.ldc2_w 82, 3) := by decide +kernel
theorem dX1_tokenOf_38 : decode cX1_tokenOf 38 = .ok (.lcmp, 1) := by decide +kernel
theorem dX1_tokenOf_39 : decode cX1_tokenOf 39 = .ok (.ifCond .ne 6, 3) := by decide +kernel
theorem dX1_tokenOf_42 : decode cX1_tokenOf 42 = .ok (.bipush 9, 2) := by decide +kernel
theorem dX1_tokenOf_44 : decode cX1_tokenOf 44 = .ok (.ireturn, 1) := by decide +kernel
theorem dX1_tokenOf_45 : decode cX1_tokenOf 45 = .ok (.lload_n 0, 1) := by decide +kernel
theorem dX1_tokenOf_46 : decode cX1_tokenOf 46 = .ok (.ldc2_w 84, 3) := by decide +kernel
theorem dX1_tokenOf_49 : decode cX1_tokenOf 49 = .ok (.lcmp, 1) := by decide +kernel
theorem dX1_tokenOf_50 : decode cX1_tokenOf 50 = .ok (.ifCond .ne 6, 3) := by decide +kernel
theorem dX1_tokenOf_53 : decode cX1_tokenOf 53 = .ok (.bipush 10, 2) := by decide +kernel
theorem dX1_tokenOf_55 : decode cX1_tokenOf 55 = .ok (.ireturn, 1) := by decide +kernel
theorem dX1_tokenOf_56 : decode cX1_tokenOf 56 = .ok (.lload_n 0, 1) := by decide +kernel
theorem dX1_tokenOf_57 : decode cX1_tokenOf 57 = .ok (.ldc2_w 86, 3) := by decide +kernel
theorem dX1_tokenOf_60 : decode cX1_tokenOf 60 = .ok (.lcmp, 1) := by decide +kernel
theorem dX1_tokenOf_61 : decode cX1_tokenOf 61 = .ok (.ifCond .ne 8, 3) := by decide +kernel
theorem dX1_tokenOf_64 : decode cX1_tokenOf 64 = .ok (.bipush 11, 2) := by decide +kernel
theorem dX1_tokenOf_66 : decode cX1_tokenOf 66 = .ok (.goto 5, 3) := by decide +kernel
theorem dX1_tokenOf_69 : decode cX1_tokenOf 69 = .ok (.bipush 14, 2) := by decide +kernel
theorem dX1_tokenOf_71 : decode cX1_tokenOf 71 = .ok (.ireturn, 1) := by decide +kernel
theorem dX1_byteAt_0 : decode cX1_byteAt 0 = .ok (.iload_n 1, 1) := by decide +kernel
theorem dX1_byteAt_1 : decode cX1_byteAt 1 = .ok (.ifCond .lt 23, 3) := by decide +kernel
theorem dX1_byteAt_4 : decode cX1_byteAt 4 = .ok (.iload_n 1, 1) := by decide +kernel
theorem dX1_byteAt_5 : decode cX1_byteAt 5 = .ok (.sipush 300, 3) := by decide +kernel
theorem dX1_byteAt_8 : decode cX1_byteAt 8 = .ok (.if_icmp .ge 16, 3) := by decide +kernel
theorem dX1_byteAt_11 : decode cX1_byteAt 11 = .ok (.aload_n 0, 1) := by decide +kernel
theorem dX1_byteAt_12 : decode cX1_byteAt 12 = .ok (.getfield 9, 3) := by decide +kernel
theorem dX1_byteAt_15 : decode cX1_byteAt 15 = .ok (.iload_n 1, 1) := by decide +kernel
theorem dX1_byteAt_16 : decode cX1_byteAt 16 = .ok (.baload, 1) := by decide +kernel
theorem dX1_byteAt_17 : decode cX1_byteAt 17 = .ok (.sipush 255, 3) := by decide +kernel
theorem dX1_byteAt_20 : decode cX1_byteAt 20 = .ok (.iand, 1) := by decide +kernel
theorem dX1_byteAt_21 : decode cX1_byteAt 21 = .ok (.goto 4, 3) := by decide +kernel
theorem dX1_byteAt_24 : decode cX1_byteAt 24 = .ok (.iconst 0, 1) := by decide +kernel
theorem dX1_byteAt_25 : decode cX1_byteAt 25 = .ok (.ireturn, 1) := by decide +kernel
theorem dX1_isLetter_0 : decode cX1_isLetter 0 = .ok (.iload_n 0, 1) := by decide +kernel
theorem dX1_isLetter_1 : decode cX1_isLetter 1 = .ok (.bipush 97, 2) := by decide +kernel
theorem dX1_isLetter_3 : decode cX1_isLetter 3 = .ok (.if_icmp .lt 13, 3) := by decide +kernel
theorem dX1_isLetter_6 : decode cX1_isLetter 6 = .ok (.iload_n 0, 1) := by decide +kernel
theorem dX1_isLetter_7 : decode cX1_isLetter 7 = .ok (.bipush 122, 2) := by decide +kernel
theorem dX1_isLetter_9 : decode cX1_isLetter 9 = .ok (.if_icmp .gt 7, 3) := by decide +kernel
theorem dX1_isLetter_12 : decode cX1_isLetter 12 = .ok (.iconst 1, 1) := by decide +kernel
theorem dX1_isLetter_13 : decode cX1_isLetter 13 = .ok (.goto 4, 3) := by decide +kernel
theorem dX1_isLetter_16 : decode cX1_isLetter 16 = .ok (.iconst 0, 1) := by decide +kernel
theorem dX1_isLetter_17 : decode cX1_isLetter 17 = .ok (.ireturn, 1) := by decide +kernel
end
section
def wT (t0 : Nat) (t1 : Nat) (ct : ClassId) (by_ : Nat → Int32) (ln : Int32) (pl : Int32) (tk : Int32) (tp : Int32) : va_W := [(t0, .inr (1, [.ref t1, .int ln, .int pl, .int tk, .int tp])), (t1, .inl (ct, 300, .inl by_))]
def tT (t0 : Nat) (t1 : Nat) (ct : ClassId) : List (ClassId × FieldType) := [(ct, .byte)]
def wTB (t0 : Nat) (t1 : Nat) (ct : ClassId) (a0 : Nat) (a1 : Nat) (a2 : Nat) (a3 : Nat) (b1 : ClassId) (b2 : ClassId) (b3 : ClassId) (by_ : Nat → Int32) (ln : Int32) (pl : Int32) (tk : Int32) (tp : Int32) (sz : Int32) (may : Int32) (hd : Nat → Int32) (fi : Nat → Int32) (un : Nat → Int32) : va_W := [(t0, .inr (1, [.ref t1, .int ln, .int pl, .int tk, .int tp])), (t1, .inl (ct, 300, .inl by_)), (a0, .inr (0, [.int sz, .int may, .ref a1, .ref a2, .ref a3])), (a1, .inl (b1, 10, .inl hd)), (a2, .inl (b2, 10, .inl fi)), (a3, .inl (b3, 10, .inl un))]
def tTB (t0 : Nat) (t1 : Nat) (ct : ClassId) (a0 : Nat) (a1 : Nat) (a2 : Nat) (a3 : Nat) (b1 : ClassId) (b2 : ClassId) (b3 : ClassId) : List (ClassId × FieldType) := [(ct, .byte), (b1, .int), (b2, .int), (b3, .int)]

def s_X1_isLetter (value : Int32) : Int32 := (if value < 97 then 0 else (if 122 < value then 0 else 1))
set_option maxHeartbeats 4000000 in
set_option maxRecDepth 100000 in
theorem c_X1_isLetter (l : Launch) (D : va_G) (value : Int32) (sz : Nat) : Met l yX1_isLetter wsX1_isLetter ({ frames := 0, cells := 0, slots := 0, locals := 0 }) (va_Pc [.int value] (cPre D ([] : List (ClassId × FieldType)) ([] : va_W) sz)) (va_Qi (fun r (_ : Unit) => r = s_X1_isLetter value) (fun _ _ => True) (fun q => sz ≤ q)) 0 0 (fun q => sz ≤ q) := by
  refine Met.ofW (cc := cX1_isLetter) (maxL := 1) (ret := (some .boolean)) (by decide) rfl ?_
  intro p e s m args below meth c s₁ B hml hv
  obtain ⟨rfl, hsz, hP, hK, hD, hN⟩ := hv
  have hx := B.exec
  have hb := B.bytes
  have hr := B.returns
  have hts := atoms_spec (ws := wsX1_isLetter) B.pre
  have hown : s.vm.findClass RX1 = some m.cls := findClass_of_methodNamed B.named
  have hlocks := B.notSynchronized
  subst hsz
  obtain ⟨A, hAe⟩ : ∃ A : Nat → Prop, A = (fun q : Nat => s.heap.size ≤ q) := ⟨_, rfl⟩
  have hA : ∀ q : Nat, s.heap.size ≤ q → A q := fun q h => by rw [hAe]; exact h
  have hS : va_S A s.heap s.heap [] := va_S.rf
  subst hAe
  have hl := lv_entry ([.int value]) (n := 1) (Nat.le_of_ble_eq_true rfl)
  rw [lg_entry_eq]
  generalize (lg_sl ([.int value]) ++ List.replicate (1 - (lg_sl ([.int value])).length) Slot.unset).toArray = ls at hl ⊢
  replace hl : lv_has ls 1 [(0, .int value)] := hl
  have hKe := hK.sub (tys' := []) [] rfl
  refine lv_iload_n hx hb dX1_isLetter_0 rfl (lv_at hl 0 rfl) ?_
  refine lv_bipush (v := 97) hx hb dX1_isLetter_1 (by decide) ?_
  refine lv_icmp_lt (tgt := 16) hx hb dX1_isLetter_3 (by decide) (fun c_3_1 => ?_) (fun c_3_1 => ?_)
  · refine lv_iconst (v := 0) hx hb dX1_isLetter_16 (by decide) ?_
    exact ro_zret hx hb hr hS hlocks (show s_X1_isLetter value = 0 from by (unfold s_X1_isLetter; (try dsimp only); (try rw [if_pos c_3_1]); first | done | rfl)).symm (by decide +kernel) dX1_isLetter_17
  · refine lv_iload_n hx hb dX1_isLetter_6 rfl (lv_at hl 0 rfl) ?_
    refine lv_bipush (v := 122) hx hb dX1_isLetter_7 (by decide) ?_
    refine lv_icmp_gt (tgt := 16) hx hb dX1_isLetter_9 (by decide) (fun c_9_2 => ?_) (fun c_9_2 => ?_)
    · refine lv_iconst (v := 0) hx hb dX1_isLetter_16 (by decide) ?_
      exact ro_zret hx hb hr hS hlocks (show s_X1_isLetter value = 0 from by (unfold s_X1_isLetter; (try dsimp only); (try rw [if_neg c_3_1]); (try rw [if_pos c_9_2]); first | done | rfl)).symm (by decide +kernel) dX1_isLetter_17
    · refine lv_iconst (v := 1) hx hb dX1_isLetter_12 (by decide) ?_
      refine lv_goto (tgt := 17) hx hb dX1_isLetter_13 (by decide) ?_
      exact ro_zret hx hb hr hS hlocks (show s_X1_isLetter value = 1 from by (unfold s_X1_isLetter; (try dsimp only); (try rw [if_neg c_3_1]); (try rw [if_neg c_9_2]); first | done | rfl)).symm (by decide +kernel) dX1_isLetter_17

def s_X1_tokenOf (word : Int64) : Int32 := (if (lg_cmp word 97) < 0 then (if (lg_cmp word 26982) = 0 then 8 else (if (lg_cmp word 129117125440371) = 0 then 9 else (if (lg_cmp word 474148660594) = 0 then 10 else (if (lg_cmp word 7168377) = 0 then 11 else 14)))) else (if 0 ≤ (lg_cmp word 105) then (if (lg_cmp word 26982) = 0 then 8 else (if (lg_cmp word 129117125440371) = 0 then 9 else (if (lg_cmp word 474148660594) = 0 then 10 else (if (lg_cmp word 7168377) = 0 then 11 else 14)))) else (((word - 97) : Int64).toInt32)))
set_option maxHeartbeats 4000000 in
set_option maxRecDepth 100000 in
theorem c_X1_tokenOf (l : Launch) (D : va_G) (word : Int64) (sz : Nat) : Met l yX1_tokenOf wsX1_tokenOf ({ frames := 0, cells := 0, slots := 0, locals := 0 }) (va_Pc [.long word] (cPre D ([] : List (ClassId × FieldType)) ([] : va_W) sz)) (va_Qi (fun r (_ : Unit) => r = s_X1_tokenOf word) (fun _ _ => True) (fun q => sz ≤ q)) 0 0 (fun q => sz ≤ q) := by
  refine Met.ofW (cc := cX1_tokenOf) (maxL := 2) (ret := (some .int)) (by decide) rfl ?_
  intro p e s m args below meth c s₁ B hml hv
  obtain ⟨rfl, hsz, hP, hK, hD, hN⟩ := hv
  have hx := B.exec
  have hb := B.bytes
  have hr := B.returns
  have hts := atoms_spec (ws := wsX1_tokenOf) B.pre
  have hown : s.vm.findClass RX1 = some m.cls := findClass_of_methodNamed B.named
  have hlocks := B.notSynchronized
  subst hsz
  obtain ⟨A, hAe⟩ : ∃ A : Nat → Prop, A = (fun q : Nat => s.heap.size ≤ q) := ⟨_, rfl⟩
  have hA : ∀ q : Nat, s.heap.size ≤ q → A q := fun q h => by rw [hAe]; exact h
  have hS : va_S A s.heap s.heap [] := va_S.rf
  subst hAe
  have hl := lv_entry ([.long word]) (n := 2) (Nat.le_of_ble_eq_true rfl)
  rw [lg_entry_eq]
  generalize (lg_sl ([.long word]) ++ List.replicate (2 - (lg_sl ([.long word])).length) Slot.unset).toArray = ls at hl ⊢
  replace hl : lv_has ls 2 [(0, .long word)] := hl
  have hKe := hK.sub (tys' := []) [] rfl
  refine lv_lload_n hx hb dX1_tokenOf_0 rfl (lv_at hl 0 rfl) ?_
  refine lv_ldc2 (v := 97) hx hb hown (hts (.constantLong RX1 76 (97)) (by decide +kernel)) dX1_tokenOf_1 ?_
  refine W.lcmp hx hb dX1_tokenOf_4 ?_
  refine lv_if_lt (tgt := 23) hx hb dX1_tokenOf_5 (by decide) (fun c_5_1 => ?_) (fun c_5_1 => ?_)
  · refine lv_lload_n hx hb dX1_tokenOf_23 rfl (lv_at hl 0 rfl) ?_
    refine lv_ldc2 (v := 26982) hx hb hown (hts (.constantLong RX1 80 (26982)) (by decide +kernel)) dX1_tokenOf_24 ?_
    refine W.lcmp hx hb dX1_tokenOf_27 ?_
    refine lv_if_ne (tgt := 34) hx hb dX1_tokenOf_28 (by decide) (fun c_28_2 => ?_) (fun c_28_2 => ?_)
    · refine lv_lload_n hx hb dX1_tokenOf_34 rfl (lv_at hl 0 rfl) ?_
      refine lv_ldc2 (v := 129117125440371) hx hb hown (hts (.constantLong RX1 82 (129117125440371)) (by decide +kernel)) dX1_tokenOf_35 ?_
      refine W.lcmp hx hb dX1_tokenOf_38 ?_
      refine lv_if_ne (tgt := 45) hx hb dX1_tokenOf_39 (by decide) (fun c_39_3 => ?_) (fun c_39_3 => ?_)
      · refine lv_lload_n hx hb dX1_tokenOf_45 rfl (lv_at hl 0 rfl) ?_
        refine lv_ldc2 (v := 474148660594) hx hb hown (hts (.constantLong RX1 84 (474148660594)) (by decide +kernel)) dX1_tokenOf_46 ?_
        refine W.lcmp hx hb dX1_tokenOf_49 ?_
        refine lv_if_ne (tgt := 56) hx hb dX1_tokenOf_50 (by decide) (fun c_50_4 => ?_) (fun c_50_4 => ?_)
        · refine lv_lload_n hx hb dX1_tokenOf_56 rfl (lv_at hl 0 rfl) ?_
          refine lv_ldc2 (v := 7168377) hx hb hown (hts (.constantLong RX1 86 (7168377)) (by decide +kernel)) dX1_tokenOf_57 ?_
          refine W.lcmp hx hb dX1_tokenOf_60 ?_
          refine lv_if_ne (tgt := 69) hx hb dX1_tokenOf_61 (by decide) (fun c_61_5 => ?_) (fun c_61_5 => ?_)
          · refine lv_bipush (v := 14) hx hb dX1_tokenOf_69 (by decide) ?_
            exact ro_iret hx hb hr hS hlocks (show s_X1_tokenOf word = 14 from by (unfold s_X1_tokenOf; (try dsimp only); (try rw [if_pos c_5_1]); (try rw [if_neg c_28_2]); (try rw [if_neg c_39_3]); (try rw [if_neg c_50_4]); (try rw [if_neg c_61_5]); first | done | rfl)).symm dX1_tokenOf_71
          · refine lv_bipush (v := 11) hx hb dX1_tokenOf_64 (by decide) ?_
            refine lv_goto (tgt := 71) hx hb dX1_tokenOf_66 (by decide) ?_
            exact ro_iret hx hb hr hS hlocks (show s_X1_tokenOf word = 11 from by (unfold s_X1_tokenOf; (try dsimp only); (try rw [if_pos c_5_1]); (try rw [if_neg c_28_2]); (try rw [if_neg c_39_3]); (try rw [if_neg c_50_4]); (try rw [if_pos c_61_5]); first | done | rfl)).symm dX1_tokenOf_71
        · refine lv_bipush (v := 10) hx hb dX1_tokenOf_53 (by decide) ?_
          exact ro_iret hx hb hr hS hlocks (show s_X1_tokenOf word = 10 from by (unfold s_X1_tokenOf; (try dsimp only); (try rw [if_pos c_5_1]); (try rw [if_neg c_28_2]); (try rw [if_neg c_39_3]); (try rw [if_pos c_50_4]); first | done | rfl)).symm dX1_tokenOf_55
      · refine lv_bipush (v := 9) hx hb dX1_tokenOf_42 (by decide) ?_
        exact ro_iret hx hb hr hS hlocks (show s_X1_tokenOf word = 9 from by (unfold s_X1_tokenOf; (try dsimp only); (try rw [if_pos c_5_1]); (try rw [if_neg c_28_2]); (try rw [if_pos c_39_3]); first | done | rfl)).symm dX1_tokenOf_44
    · refine lv_bipush (v := 8) hx hb dX1_tokenOf_31 (by decide) ?_
      exact ro_iret hx hb hr hS hlocks (show s_X1_tokenOf word = 8 from by (unfold s_X1_tokenOf; (try dsimp only); (try rw [if_pos c_5_1]); (try rw [if_pos c_28_2]); first | done | rfl)).symm dX1_tokenOf_33
  · refine lv_lload_n hx hb dX1_tokenOf_8 rfl (lv_at hl 0 rfl) ?_
    refine lv_ldc2 (v := 105) hx hb hown (hts (.constantLong RX1 78 (105)) (by decide +kernel)) dX1_tokenOf_9 ?_
    refine W.lcmp hx hb dX1_tokenOf_12 ?_
    refine lv_if_ge (tgt := 23) hx hb dX1_tokenOf_13 (by decide) (fun c_13_6 => ?_) (fun c_13_6 => ?_)
    · refine lv_lload_n hx hb dX1_tokenOf_23 rfl (lv_at hl 0 rfl) ?_
      refine lv_ldc2 (v := 26982) hx hb hown (hts (.constantLong RX1 80 (26982)) (by decide +kernel)) dX1_tokenOf_24 ?_
      refine W.lcmp hx hb dX1_tokenOf_27 ?_
      refine lv_if_ne (tgt := 34) hx hb dX1_tokenOf_28 (by decide) (fun c_28_7 => ?_) (fun c_28_7 => ?_)
      · refine lv_lload_n hx hb dX1_tokenOf_34 rfl (lv_at hl 0 rfl) ?_
        refine lv_ldc2 (v := 129117125440371) hx hb hown (hts (.constantLong RX1 82 (129117125440371)) (by decide +kernel)) dX1_tokenOf_35 ?_
        refine W.lcmp hx hb dX1_tokenOf_38 ?_
        refine lv_if_ne (tgt := 45) hx hb dX1_tokenOf_39 (by decide) (fun c_39_8 => ?_) (fun c_39_8 => ?_)
        · refine lv_lload_n hx hb dX1_tokenOf_45 rfl (lv_at hl 0 rfl) ?_
          refine lv_ldc2 (v := 474148660594) hx hb hown (hts (.constantLong RX1 84 (474148660594)) (by decide +kernel)) dX1_tokenOf_46 ?_
          refine W.lcmp hx hb dX1_tokenOf_49 ?_
          refine lv_if_ne (tgt := 56) hx hb dX1_tokenOf_50 (by decide) (fun c_50_9 => ?_) (fun c_50_9 => ?_)
          · refine lv_lload_n hx hb dX1_tokenOf_56 rfl (lv_at hl 0 rfl) ?_
            refine lv_ldc2 (v := 7168377) hx hb hown (hts (.constantLong RX1 86 (7168377)) (by decide +kernel)) dX1_tokenOf_57 ?_
            refine W.lcmp hx hb dX1_tokenOf_60 ?_
            refine lv_if_ne (tgt := 69) hx hb dX1_tokenOf_61 (by decide) (fun c_61_10 => ?_) (fun c_61_10 => ?_)
            · refine lv_bipush (v := 14) hx hb dX1_tokenOf_69 (by decide) ?_
              exact ro_iret hx hb hr hS hlocks (show s_X1_tokenOf word = 14 from by (unfold s_X1_tokenOf; (try dsimp only); (try rw [if_neg c_5_1]); (try rw [if_pos c_13_6]); (try rw [if_neg c_28_7]); (try rw [if_neg c_39_8]); (try rw [if_neg c_50_9]); (try rw [if_neg c_61_10]); first | done | rfl)).symm dX1_tokenOf_71
            · refine lv_bipush (v := 11) hx hb dX1_tokenOf_64 (by decide) ?_
              refine lv_goto (tgt := 71) hx hb dX1_tokenOf_66 (by decide) ?_
              exact ro_iret hx hb hr hS hlocks (show s_X1_tokenOf word = 11 from by (unfold s_X1_tokenOf; (try dsimp only); (try rw [if_neg c_5_1]); (try rw [if_pos c_13_6]); (try rw [if_neg c_28_7]); (try rw [if_neg c_39_8]); (try rw [if_neg c_50_9]); (try rw [if_pos c_61_10]); first | done | rfl)).symm dX1_tokenOf_71
          · refine lv_bipush (v := 10) hx hb dX1_tokenOf_53 (by decide) ?_
            exact ro_iret hx hb hr hS hlocks (show s_X1_tokenOf word = 10 from by (unfold s_X1_tokenOf; (try dsimp only); (try rw [if_neg c_5_1]); (try rw [if_pos c_13_6]); (try rw [if_neg c_28_7]); (try rw [if_neg c_39_8]); (try rw [if_pos c_50_9]); first | done | rfl)).symm dX1_tokenOf_55
        · refine lv_bipush (v := 9) hx hb dX1_tokenOf_42 (by decide) ?_
          exact ro_iret hx hb hr hS hlocks (show s_X1_tokenOf word = 9 from by (unfold s_X1_tokenOf; (try dsimp only); (try rw [if_neg c_5_1]); (try rw [if_pos c_13_6]); (try rw [if_neg c_28_7]); (try rw [if_pos c_39_8]); first | done | rfl)).symm dX1_tokenOf_44
      · refine lv_bipush (v := 8) hx hb dX1_tokenOf_31 (by decide) ?_
        exact ro_iret hx hb hr hS hlocks (show s_X1_tokenOf word = 8 from by (unfold s_X1_tokenOf; (try dsimp only); (try rw [if_neg c_5_1]); (try rw [if_pos c_13_6]); (try rw [if_pos c_28_7]); first | done | rfl)).symm dX1_tokenOf_33
    · refine lv_lload_n hx hb dX1_tokenOf_16 rfl (lv_at hl 0 rfl) ?_
      refine lv_ldc2 (v := 97) hx hb hown (hts (.constantLong RX1 76 (97)) (by decide +kernel)) dX1_tokenOf_17 ?_
      refine lv_lsub hx hb dX1_tokenOf_20 ?_
      refine lv_l2i hx hb dX1_tokenOf_21 rfl ?_
      exact ro_iret hx hb hr hS hlocks (show s_X1_tokenOf word = (((word - 97) : Int64).toInt32) from by (unfold s_X1_tokenOf; (try dsimp only); (try rw [if_neg c_5_1]); (try rw [if_neg c_13_6]); first | done | rfl)).symm dX1_tokenOf_22

def s_X1_byteAt (by_ : Nat → Int32) (index : Int32) : Int32 := (if index < 0 then 0 else (if 300 ≤ index then 0 else ((by_ index.toNatClampNeg) &&& 255)))
set_option maxHeartbeats 4000000 in
set_option maxRecDepth 100000 in
theorem c_X1_byteAt (l : Launch) (D : va_G) (t0 : Nat) (t1 : Nat) (ct : ClassId) (by_ : Nat → Int32) (ln : Int32) (pl : Int32) (tk : Int32) (tp : Int32) (index : Int32) (sz : Nat) : Met l yX1_byteAt wsX1_byteAt ({ frames := 0, cells := 0, slots := 0, locals := 0 }) (va_Pc [.ref t0, .int index] (cPre D (tT t0 t1 ct) (wT t0 t1 ct by_ ln pl tk tp) sz)) (va_Qi (fun r (_ : Unit) => r = s_X1_byteAt by_ index) (fun _ _ => True) (fun q => sz ≤ q)) 0 0 (fun q => sz ≤ q) := by
  refine Met.ofW (cc := cX1_byteAt) (maxL := 2) (ret := (some .int)) (by decide) rfl ?_
  intro p e s m args below meth c s₁ B hml hv
  obtain ⟨rfl, hsz, hP, hK, hD, hN⟩ := hv
  have hx := B.exec
  have hb := B.bytes
  have hr := B.returns
  have hts := atoms_spec (ws := wsX1_byteAt) B.pre
  have hown : s.vm.findClass RX1 = some m.cls := findClass_of_methodNamed B.named
  have hlocks := B.notSynchronized
  have hinX1 : ∀ w ∈ wsX10, w ∈ wsX1_byteAt := fun w h => List.mem_cons_of_mem _ (List.mem_append_right _ h)
  subst hsz
  obtain ⟨A, hAe⟩ : ∃ A : Nat → Prop, A = (fun q : Nat => s.heap.size ≤ q) := ⟨_, rfl⟩
  have hA : ∀ q : Nat, s.heap.size ≤ q → A q := fun q h => by rw [hAe]; exact h
  have hS : va_S A s.heap s.heap [] := va_S.rf
  subst hAe
  have hl := lv_entry ([.ref t0, .int index]) (n := 2) (Nat.le_of_ble_eq_true rfl)
  rw [lg_entry_eq]
  generalize (lg_sl ([.ref t0, .int index]) ++ List.replicate (2 - (lg_sl ([.ref t0, .int index])).length) Slot.unset).toArray = ls at hl ⊢
  replace hl : lv_has ls 2 [(0, .ref t0), (1, .int index)] := hl
  have hKe := hK.sub (tys' := []) [] rfl
  refine lv_iload_n hx hb dX1_byteAt_0 rfl (lv_at hl 1 rfl) ?_
  refine lv_if_lt (tgt := 24) hx hb dX1_byteAt_1 (by decide) (fun c_1_1 => ?_) (fun c_1_1 => ?_)
  · refine lv_iconst (v := 0) hx hb dX1_byteAt_24 (by decide) ?_
    exact ro_iret hx hb hr hS hlocks (show s_X1_byteAt by_ index = 0 from by (unfold s_X1_byteAt; (try dsimp only); (try rw [if_pos c_1_1]); first | done | rfl)).symm dX1_byteAt_25
  · refine lv_iload_n hx hb dX1_byteAt_4 rfl (lv_at hl 1 rfl) ?_
    refine lv_sipush (v := 300) hx hb dX1_byteAt_5 (by decide) ?_
    refine lv_icmp_ge (tgt := 24) hx hb dX1_byteAt_8 (by decide) (fun c_8_2 => ?_) (fun c_8_2 => ?_)
    · refine lv_iconst (v := 0) hx hb dX1_byteAt_24 (by decide) ?_
      exact ro_iret hx hb hr hS hlocks (show s_X1_byteAt by_ index = 0 from by (unfold s_X1_byteAt; (try dsimp only); (try rw [if_neg c_1_1]); (try rw [if_pos c_8_2]); first | done | rfl)).symm dX1_byteAt_25
    · refine lv_aload_n hx hb dX1_byteAt_11 rfl (lv_at hl 0 rfl) ?_
      refine va_get (D := D) (ci := 1) (v := .ref t1) (C := RX1) (T := TX1) (N := 5) hx hb hts hinX1 hown hK hP 0 rfl rfl 0 (by decide) (hts (.fieldLink RX1 9 "HoldUnless$Text" "bytes" "[B") (by decide +kernel)) (fun _ h9 => h9) rfl dX1_byteAt_12 ?_
      refine lv_iload_n hx hb dX1_byteAt_15 rfl (lv_at hl 1 rfl) ?_
      refine va_bald hx hb hK hP 1 0 rfl rfl ((vp_of (by decide) c_1_1 c_8_2)) dX1_byteAt_16 ?_
      refine lv_sipush (v := 255) hx hb dX1_byteAt_17 (by decide) ?_
      refine lv_iand hx hb dX1_byteAt_20 ?_
      refine lv_goto (tgt := 25) hx hb dX1_byteAt_21 (by decide) ?_
      exact ro_iret hx hb hr hS hlocks (show s_X1_byteAt by_ index = ((by_ index.toNatClampNeg) &&& 255) from by (unfold s_X1_byteAt; (try dsimp only); (try rw [if_neg c_1_1]); (try rw [if_neg c_8_2]); first | done | rfl)).symm dX1_byteAt_25

def s_X1_append (by_ : Nat → Int32) (ln : Int32) (next : Int32) : (Nat → Int32) × Int32 := (if ln < 0 then (by_, ln) else (if 300 ≤ ln then (by_, ln) else ((upd by_ ln.toNatClampNeg (vp_nar .byte next)), (ln + 1))))
set_option maxHeartbeats 4000000 in
set_option maxRecDepth 100000 in
theorem c_X1_append (l : Launch) (D : va_G) (t0 : Nat) (t1 : Nat) (ct : ClassId) (by_ : Nat → Int32) (ln : Int32) (pl : Int32) (tk : Int32) (tp : Int32) (next : Int32) (sz : Nat) : Met l yX1_append wsX1_append ({ frames := 0, cells := 0, slots := 0, locals := 0 }) (va_Pc [.ref t0, .int next] (cPre D (tT t0 t1 ct) (wT t0 t1 ct by_ ln pl tk tp) sz)) (va_Qv (fun (u : (Nat → Int32) × Int32) => (u.1, u.2) = s_X1_append by_ ln next) (rwB D (fun u : (Nat → Int32) × Int32 => (wT t0 t1 ct u.1 u.2 pl tk tp)) (va_A (wT t0 t1 ct by_ ln pl tk tp) sz)) (va_A (wT t0 t1 ct by_ ln pl tk tp) sz)) 0 0 (va_A (wT t0 t1 ct by_ ln pl tk tp) sz) := by
  refine Met.ofW (cc := cX1_append) (maxL := 2) (ret := none) (by decide) rfl ?_
  intro p e s m args below meth c s₁ B hml hv
  obtain ⟨rfl, hsz, hP, hK, hD, hN⟩ := hv
  have hx := B.exec
  have hb := B.bytes
  have hr := B.returns
  have hts := atoms_spec (ws := wsX1_append) B.pre
  have hown : s.vm.findClass RX1 = some m.cls := findClass_of_methodNamed B.named
  have hlocks := B.notSynchronized
  have hinX1 : ∀ w ∈ wsX10, w ∈ wsX1_append := fun w h => List.mem_cons_of_mem _ (List.mem_append_right _ h)
  subst hsz
  replace hD := hD.self (sz := s.heap.size)
  generalize hAe : va_A (wT t0 t1 ct by_ ln pl tk tp) s.heap.size = A at hD ⊢
  have hA : ∀ q : Nat, s.heap.size ≤ q → A q := fun q h => by rw [← hAe]; exact Or.inr h
  have hS : va_S A s.heap s.heap [] := va_S.rf
  have hl := lv_entry ([.ref t0, .int next]) (n := 2) (Nat.le_of_ble_eq_true rfl)
  rw [lg_entry_eq]
  generalize (lg_sl ([.ref t0, .int next]) ++ List.replicate (2 - (lg_sl ([.ref t0, .int next])).length) Slot.unset).toArray = ls at hl ⊢
  replace hl : lv_has ls 2 [(0, .ref t0), (1, .int next)] := hl
  have hKe := hK.sub (tys' := []) [] rfl
  refine lv_aload_n hx hb dX1_append_0 rfl (lv_at hl 0 rfl) ?_
  refine va_get (D := D) (ci := 1) (v := .int ln) (C := RX1) (T := TX1) (N := 5) hx hb hts hinX1 hown hK hP 0 rfl rfl 1 (by decide) (hts (.fieldLink RX1 15 "HoldUnless$Text" "length" "I") (by decide +kernel)) (fun _ h9 => h9) rfl dX1_append_1 ?_
  refine lv_if_lt (tgt := 37) hx hb dX1_append_4 (by decide) (fun c_4_1 => ?_) (fun c_4_1 => ?_)
  · exact rw_vret hx hb hr hS hlocks (by_, ln) (show s_X1_append by_ ln next = (by_, ln) from by (unfold s_X1_append; (try dsimp only); (try rw [if_pos c_4_1]); first | done | rfl)).symm hP hD dX1_append_37
  · refine lv_aload_n hx hb dX1_append_7 rfl (lv_at hl 0 rfl) ?_
    refine va_get (D := D) (ci := 1) (v := .int ln) (C := RX1) (T := TX1) (N := 5) hx hb hts hinX1 hown hK hP 0 rfl rfl 1 (by decide) (hts (.fieldLink RX1 15 "HoldUnless$Text" "length" "I") (by decide +kernel)) (fun _ h9 => h9) rfl dX1_append_8 ?_
    refine lv_sipush (v := 300) hx hb dX1_append_11 (by decide) ?_
    refine lv_icmp_ge (tgt := 37) hx hb dX1_append_14 (by decide) (fun c_14_2 => ?_) (fun c_14_2 => ?_)
    · exact rw_vret hx hb hr hS hlocks (by_, ln) (show s_X1_append by_ ln next = (by_, ln) from by (unfold s_X1_append; (try dsimp only); (try rw [if_neg c_4_1]); (try rw [if_pos c_14_2]); first | done | rfl)).symm hP hD dX1_append_37
    · refine lv_aload_n hx hb dX1_append_17 rfl (lv_at hl 0 rfl) ?_
      refine va_get (D := D) (ci := 1) (v := .ref t1) (C := RX1) (T := TX1) (N := 5) hx hb hts hinX1 hown hK hP 0 rfl rfl 0 (by decide) (hts (.fieldLink RX1 9 "HoldUnless$Text" "bytes" "[B") (by decide +kernel)) (fun _ h9 => h9) rfl dX1_append_18 ?_
      refine lv_aload_n hx hb dX1_append_21 rfl (lv_at hl 0 rfl) ?_
      refine va_get (D := D) (ci := 1) (v := .int ln) (C := RX1) (T := TX1) (N := 5) hx hb hts hinX1 hown hK hP 0 rfl rfl 1 (by decide) (hts (.fieldLink RX1 15 "HoldUnless$Text" "length" "I") (by decide +kernel)) (fun _ h9 => h9) rfl dX1_append_22 ?_
      refine lv_iload_n hx hb dX1_append_25 rfl (lv_at hl 1 rfl) ?_
      refine va_bast hx hb hK hP hD hS 1 0 rfl rfl ((vp_of (by decide) c_4_1 c_14_2)) dX1_append_26 (fun H locs hP hD hS => ?_)
      replace hP : va_P D vwCl (wT t0 t1 ct (upd by_ ln.toNatClampNeg (vp_nar .byte next)) ln pl tk tp) H := hP
      replace hD : va_D A (wT t0 t1 ct (upd by_ ln.toNatClampNeg (vp_nar .byte next)) ln pl tk tp) := hD
      refine lv_aload_n hx hb dX1_append_27 rfl (lv_at hl 0 rfl) ?_
      refine lv_dup hx hb dX1_append_28 rfl ?_
      refine va_get (D := D) (ci := 1) (v := .int ln) (C := RX1) (T := TX1) (N := 5) hx hb hts hinX1 hown hK hP 0 rfl rfl 1 (by decide) (hts (.fieldLink RX1 15 "HoldUnless$Text" "length" "I") (by decide +kernel)) (fun _ h9 => h9) rfl dX1_append_29 ?_
      refine lv_iconst (v := 1) hx hb dX1_append_32 (by decide) ?_
      refine lv_iadd hx hb dX1_append_33 ?_
      refine va_put (D := D) (ci := 1) (v := .int (ln + 1)) (ty := .int) (C := RX1) (T := TX1) (N := 5) hx hb hts hinX1 tyX1 tyX1_ok nmX1 hown hK hP hD hS 0 rfl rfl 1 (by decide) (hts (.fieldLink RX1 15 "HoldUnless$Text" "length" "I") (by decide +kernel)) (fun _ h9 => h9) rfl (by decide +kernel) rfl rfl (Nat.le_of_ble_eq_true rfl) dX1_append_34 (fun H locs hP hD hS => ?_)
      replace hP : va_P D vwCl (wT t0 t1 ct (upd by_ ln.toNatClampNeg (vp_nar .byte next)) (ln + 1) pl tk tp) H := hP
      replace hD : va_D A (wT t0 t1 ct (upd by_ ln.toNatClampNeg (vp_nar .byte next)) (ln + 1) pl tk tp) := hD
      exact rw_vret hx hb hr hS hlocks ((upd by_ ln.toNatClampNeg (vp_nar .byte next)), (ln + 1)) (show s_X1_append by_ ln next = ((upd by_ ln.toNatClampNeg (vp_nar .byte next)), (ln + 1)) from by (unfold s_X1_append; (try dsimp only); (try rw [if_neg c_4_1]); (try rw [if_neg c_14_2]); first | done | rfl)).symm hP hD dX1_append_37

def f_X1_readWord_2 (by_ : Nat → Int32) (q : Nat) (j2 : Nat) (st : Int64) : (Nat × Int32) ⊕ (Int64) := match st with | word => (if (s_X1_isLetter (s_X1_byteAt by_ (nI (q + j2)))) = 0 then (.inl ((q + j2), (s_X1_tokenOf word))) else (.inr ((word <<< (((8 : Int32).toInt64) &&& 63)) ||| (((s_X1_byteAt by_ (nI (q + j2))) : Int32).toInt64))))
def s_X1_readWord (by_ : Nat → Int32) (len : Nat) (q : Nat) : Nat × Int32 := (onE (itE (f_X1_readWord_2 by_ q) 0 (len - q)) (fun st => match st with | word => ((q + (len - q)), (s_X1_tokenOf word))))
set_option maxHeartbeats 4000000 in
set_option maxRecDepth 100000 in
theorem c_X1_readWord (l : Launch) (D : va_G) (t0 : Nat) (t1 : Nat) (ct : ClassId) (len : Nat) (q : Nat) (by_ : Nat → Int32) (tk : Int32) (tp : Int32) (hq : q ≤ len) (hlen : len ≤ 300) (sz : Nat) : Met l yX1_readWord wsX1_readWord ({ frames := 1, cells := 0, slots := 0, locals := 21 }) (va_Pc [.ref t0] (cPre D (tT t0 t1 ct) (wT t0 t1 ct by_ (nI len) (nI q) tk tp) sz)) (va_Qv (fun (u : Nat × Int32) => (u.1, u.2) = s_X1_readWord by_ len q ∧ (u.1 ≤ len)) (rwB D (fun u : Nat × Int32 => (wT t0 t1 ct by_ (nI len) (nI u.1) u.2 tp)) (va_A (wT t0 t1 ct by_ (nI len) (nI q) tk tp) sz)) (va_A (wT t0 t1 ct by_ (nI len) (nI q) tk tp) sz)) 0 0 (va_A (wT t0 t1 ct by_ (nI len) (nI q) tk tp) sz) := by
  refine Met.ofW (cc := cX1_readWord) (maxL := 3) (ret := none) (by decide) rfl ?_
  intro p e s m args below meth c s₁ B hml hv
  obtain ⟨rfl, hsz, hP, hK, hD, hN⟩ := hv
  have hx := B.exec
  have hb := B.bytes
  have hr := B.returns
  have hts := atoms_spec (ws := wsX1_readWord) B.pre
  have hown : s.vm.findClass RX1 = some m.cls := findClass_of_methodNamed B.named
  have hlocks := B.notSynchronized
  have hinX1 : ∀ w ∈ wsX10, w ∈ wsX1_readWord := fun w h => List.mem_cons_of_mem _ (List.mem_append_right _ h)
  subst hsz
  replace hD := hD.self (sz := s.heap.size)
  generalize hAe : va_A (wT t0 t1 ct by_ (nI len) (nI q) tk tp) s.heap.size = A at hD ⊢
  have hA : ∀ q : Nat, s.heap.size ≤ q → A q := fun q h => by rw [← hAe]; exact Or.inr h
  have hS : va_S A s.heap s.heap [] := va_S.rf
  have hl := lv_entry ([.ref t0]) (n := 3) (Nat.le_of_ble_eq_true rfl)
  rw [lg_entry_eq]
  generalize (lg_sl ([.ref t0]) ++ List.replicate (3 - (lg_sl ([.ref t0])).length) Slot.unset).toArray = ls at hl ⊢
  replace hl : lv_has ls 3 [(0, .ref t0)] := hl
  have hKe := hK.sub (tys' := []) [] rfl
  refine lv_lconst (v := 0) hx hb dX1_readWord_0 (by decide) ?_
  refine lv_lstore_n (lv' := [(1, .long 0), (0, .ref t0)]) hx hb dX1_readWord_1 rfl hl (by decide) rfl (fun ls hl => ?_)
  have lp2_1 : ∀ (z_1 j2 : Nat), j2 + z_1 = len - q → ∀ (word : Int64), itE (f_X1_readWord_2 by_ q) 0 j2 = .inr word → ∀  (H : Heap) (locs : List Loc), va_P D vwCl (wT t0 t1 ct by_ (nI len) (nI (q + j2)) tk tp) H → va_D A (wT t0 t1 ct by_ (nI len) (nI (q + j2)) tk tp) → va_S A s.heap H locs → ∀ ls : Array Slot, lv_has ls 3 [(0, .ref t0), (1, .long word)] → W p l e (headSpec wsX1_readWord ({ frames := 1, cells := 0, slots := 0, locals := 21 })).room s m ([.ref t0] : List Value).toArray below meth c H locs 0 0 (MQ below (va_Qv (fun (u : Nat × Int32) => (u.1, u.2) = s_X1_readWord by_ len q ∧ (u.1 ≤ len)) (rwB D (fun u : Nat × Int32 => (wT t0 t1 ct by_ (nI len) (nI u.1) u.2 tp)) A) A) ([.ref t0] : List Value).toArray s 0 0 A) (F0 m 2 ls []) := by
    intro z_1
    induction z_1 with
    | zero =>
      intro j2 hj2 word he2   H locs hP hD hS ls hl
      obtain rfl : len - q = j2 := by omega
      refine lv_aload_n hx hb dX1_readWord_2 rfl (lv_at hl 0 rfl) ?_
      refine va_get (D := D) (ci := 1) (v := .int (nI (q + (len - q)))) (C := RX1) (T := TX1) (N := 5) hx hb hts hinX1 hown hK hP 0 rfl rfl 2 (by decide) (hts (.fieldLink RX1 24 "HoldUnless$Text" "place" "I") (by decide +kernel)) (fun _ h9 => h9) rfl dX1_readWord_3 ?_
      refine lv_aload_n hx hb dX1_readWord_6 rfl (lv_at hl 0 rfl) ?_
      refine va_get (D := D) (ci := 1) (v := .int (nI len)) (C := RX1) (T := TX1) (N := 5) hx hb hts hinX1 hown hK hP 0 rfl rfl 1 (by decide) (hts (.fieldLink RX1 15 "HoldUnless$Text" "length" "I") (by decide +kernel)) (fun _ h9 => h9) rfl dX1_readWord_7 ?_
      refine lv_icmp_ge (tgt := 55) hx hb dX1_readWord_10 (by decide) (fun _ => ?_) (fun hh_3 => absurd (nI_le (a := len) (b := q + (len - q)) (by omega) (by omega)) hh_3)
      refine lv_aload_n hx hb dX1_readWord_55 rfl (lv_at hl 0 rfl) ?_
      refine lv_lload_n hx hb dX1_readWord_56 rfl (lv_at hl 1 rfl) ?_
      refine ro_i (D := D) (va_runS (As := [.long word]) (rest := [.ref t0]) ⟨hx, hb, hml, hown, hts⟩ (c_X1_tokenOf l D word  _) (va_cwS 1 hts gX1_readWord_X1_tokenOf rfl rfl rfl (by decide +kernel) ⟨Nat.le_of_ble_eq_true rfl, Nat.le_of_ble_eq_true rfl⟩) ⟨cPre.blind, cPre.mk vP0 hKe vD0 hN⟩ rfl rfl hl.1 rfl (lv_room (Nat.le_of_ble_eq_true rfl)) dX1_readWord_57 ⟨Nat.zero_le _, Nat.zero_le _⟩) hS hA (fun H locs hkp0 hS => ?_)
      replace hP := hkp0 _ hP
      refine va_put (D := D) (ci := 1) (v := .int (s_X1_tokenOf word)) (ty := .int) (C := RX1) (T := TX1) (N := 5) hx hb hts hinX1 tyX1 tyX1_ok nmX1 hown hK hP hD hS 0 rfl rfl 3 (by decide) (hts (.fieldLink RX1 30 "HoldUnless$Text" "token" "I") (by decide +kernel)) (fun _ h9 => h9) rfl (by decide +kernel) rfl rfl (Nat.le_of_ble_eq_true rfl) dX1_readWord_60 (fun H locs hP hD hS => ?_)
      replace hP : va_P D vwCl (wT t0 t1 ct by_ (nI len) (nI (q + (len - q))) (s_X1_tokenOf word) tp) H := hP
      replace hD : va_D A (wT t0 t1 ct by_ (nI len) (nI (q + (len - q))) (s_X1_tokenOf word) tp) := hD
      exact rw_vret hx hb hr hS hlocks ((q + (len - q)), (s_X1_tokenOf word)) ⟨(show s_X1_readWord by_ len q = ((q + (len - q)), (s_X1_tokenOf word)) from by (unfold s_X1_readWord; (try dsimp only); (try rw [he2]); (try dsimp only [onE]); first | done | rfl)).symm, (by first | assumption | omega | rfl)⟩ hP hD dX1_readWord_63
    | succ z_1 ih2 =>
      intro j2 hj2 word he2   H locs hP hD hS ls hl
      refine lv_aload_n hx hb dX1_readWord_2 rfl (lv_at hl 0 rfl) ?_
      refine va_get (D := D) (ci := 1) (v := .int (nI (q + j2))) (C := RX1) (T := TX1) (N := 5) hx hb hts hinX1 hown hK hP 0 rfl rfl 2 (by decide) (hts (.fieldLink RX1 24 "HoldUnless$Text" "place" "I") (by decide +kernel)) (fun _ h9 => h9) rfl dX1_readWord_3 ?_
      refine lv_aload_n hx hb dX1_readWord_6 rfl (lv_at hl 0 rfl) ?_
      refine va_get (D := D) (ci := 1) (v := .int (nI len)) (C := RX1) (T := TX1) (N := 5) hx hb hts hinX1 hown hK hP 0 rfl rfl 1 (by decide) (hts (.fieldLink RX1 15 "HoldUnless$Text" "length" "I") (by decide +kernel)) (fun _ h9 => h9) rfl dX1_readWord_7 ?_
      refine lv_icmp_ge (tgt := 55) hx hb dX1_readWord_10 (by decide) (fun hh_5 => absurd hh_5 (nI_ge (a := q + j2) (b := len) (by omega) (by omega))) (fun _ => ?_)
      refine lv_aload_n hx hb dX1_readWord_13 rfl (lv_at hl 0 rfl) ?_
      refine lv_aload_n hx hb dX1_readWord_14 rfl (lv_at hl 0 rfl) ?_
      refine va_get (D := D) (ci := 1) (v := .int (nI (q + j2))) (C := RX1) (T := TX1) (N := 5) hx hb hts hinX1 hown hK hP 0 rfl rfl 2 (by decide) (hts (.fieldLink RX1 24 "HoldUnless$Text" "place" "I") (by decide +kernel)) (fun _ h9 => h9) rfl dX1_readWord_15 ?_
      refine ro_i (D := D) (va_runV (As := [.int (nI (q + j2))]) (rest := []) ⟨hx, hb, hml, hown, hts⟩ (c_X1_byteAt l D t0 t1 ct by_ (nI len) (nI (q + j2)) tk tp (nI (q + j2))  _) (cwV 1 hts gX1_readWord_X1_byteAt rfl rfl rfl (by decide +kernel) ⟨Nat.le_of_ble_eq_true rfl, Nat.le_of_ble_eq_true rfl⟩) ⟨cPre.blind, va_recv hK hP (ci := 1) (q0 := 0) rfl rfl, cPre.mk hP hK hD hN⟩ rfl rfl hl.1 rfl (lv_room (Nat.le_of_ble_eq_true rfl)) dX1_readWord_18 ⟨Nat.zero_le _, Nat.zero_le _⟩) hS hA (fun H locs hkp0 hS => ?_)
      replace hP := hkp0 _ hP
      refine ro_i (D := D) (va_runS (As := [.int (s_X1_byteAt by_ (nI (q + j2)))]) (rest := []) ⟨hx, hb, hml, hown, hts⟩ (c_X1_isLetter l D (s_X1_byteAt by_ (nI (q + j2)))  _) (va_cwS 1 hts gX1_readWord_X1_isLetter rfl rfl rfl (by decide +kernel) ⟨Nat.le_of_ble_eq_true rfl, Nat.le_of_ble_eq_true rfl⟩) ⟨cPre.blind, cPre.mk vP0 hKe vD0 hN⟩ rfl rfl hl.1 rfl (lv_room (Nat.le_of_ble_eq_true rfl)) dX1_readWord_21 ⟨Nat.zero_le _, Nat.zero_le _⟩) hS hA (fun H locs hkp0 hS => ?_)
      replace hP := hkp0 _ hP
      refine lv_if_eq (tgt := 55) hx hb dX1_readWord_24 (by decide) (fun c_24_6 => ?_) (fun c_24_6 => ?_)
      · refine lv_aload_n hx hb dX1_readWord_55 rfl (lv_at hl 0 rfl) ?_
        refine lv_lload_n hx hb dX1_readWord_56 rfl (lv_at hl 1 rfl) ?_
        refine ro_i (D := D) (va_runS (As := [.long word]) (rest := [.ref t0]) ⟨hx, hb, hml, hown, hts⟩ (c_X1_tokenOf l D word  _) (va_cwS 1 hts gX1_readWord_X1_tokenOf rfl rfl rfl (by decide +kernel) ⟨Nat.le_of_ble_eq_true rfl, Nat.le_of_ble_eq_true rfl⟩) ⟨cPre.blind, cPre.mk vP0 hKe vD0 hN⟩ rfl rfl hl.1 rfl (lv_room (Nat.le_of_ble_eq_true rfl)) dX1_readWord_57 ⟨Nat.zero_le _, Nat.zero_le _⟩) hS hA (fun H locs hkp0 hS => ?_)
        replace hP := hkp0 _ hP
        refine va_put (D := D) (ci := 1) (v := .int (s_X1_tokenOf word)) (ty := .int) (C := RX1) (T := TX1) (N := 5) hx hb hts hinX1 tyX1 tyX1_ok nmX1 hown hK hP hD hS 0 rfl rfl 3 (by decide) (hts (.fieldLink RX1 30 "HoldUnless$Text" "token" "I") (by decide +kernel)) (fun _ h9 => h9) rfl (by decide +kernel) rfl rfl (Nat.le_of_ble_eq_true rfl) dX1_readWord_60 (fun H locs hP hD hS => ?_)
        replace hP : va_P D vwCl (wT t0 t1 ct by_ (nI len) (nI (q + j2)) (s_X1_tokenOf word) tp) H := hP
        replace hD : va_D A (wT t0 t1 ct by_ (nI len) (nI (q + j2)) (s_X1_tokenOf word) tp) := hD
        have hs_7 : itE (f_X1_readWord_2 by_ q) 0 (j2 + 1) = (.inl ((q + j2), (s_X1_tokenOf word))) := itE_succ he2 (by (unfold f_X1_readWord_2; (try dsimp only); (try rw [if_pos c_24_6]); first | done | rfl))
        have hn_8 := itE_stop hs_7 (len - q) (by omega)
        exact rw_vret hx hb hr hS hlocks ((q + j2), (s_X1_tokenOf word)) ⟨(show s_X1_readWord by_ len q = ((q + j2), (s_X1_tokenOf word)) from by (unfold s_X1_readWord; (try dsimp only); (try rw [hn_8]); (try dsimp only [onE]); first | done | rfl)).symm, (by first | assumption | omega | rfl)⟩ hP hD dX1_readWord_63
      · refine lv_lload_n hx hb dX1_readWord_27 rfl (lv_at hl 1 rfl) ?_
        refine lv_bipush (v := 8) hx hb dX1_readWord_28 (by decide) ?_
        refine lv_lshl hx hb dX1_readWord_30 rfl ?_
        refine lv_aload_n hx hb dX1_readWord_31 rfl (lv_at hl 0 rfl) ?_
        refine lv_aload_n hx hb dX1_readWord_32 rfl (lv_at hl 0 rfl) ?_
        refine va_get (D := D) (ci := 1) (v := .int (nI (q + j2))) (C := RX1) (T := TX1) (N := 5) hx hb hts hinX1 hown hK hP 0 rfl rfl 2 (by decide) (hts (.fieldLink RX1 24 "HoldUnless$Text" "place" "I") (by decide +kernel)) (fun _ h9 => h9) rfl dX1_readWord_33 ?_
        refine ro_i (D := D) (va_runV (As := [.int (nI (q + j2))]) (rest := [.long (word <<< (((8 : Int32).toInt64) &&& 63))]) ⟨hx, hb, hml, hown, hts⟩ (c_X1_byteAt l D t0 t1 ct by_ (nI len) (nI (q + j2)) tk tp (nI (q + j2))  _) (cwV 1 hts gX1_readWord_X1_byteAt rfl rfl rfl (by decide +kernel) ⟨Nat.le_of_ble_eq_true rfl, Nat.le_of_ble_eq_true rfl⟩) ⟨cPre.blind, va_recv hK hP (ci := 1) (q0 := 0) rfl rfl, cPre.mk hP hK hD hN⟩ rfl rfl hl.1 rfl (lv_room (Nat.le_of_ble_eq_true rfl)) dX1_readWord_36 ⟨Nat.zero_le _, Nat.zero_le _⟩) hS hA (fun H locs hkp0 hS => ?_)
        replace hP := hkp0 _ hP
        refine lv_i2l hx hb dX1_readWord_39 rfl ?_
        refine lv_lor hx hb dX1_readWord_40 ?_
        refine lv_lstore_n (lv' := [(1, .long ((word <<< (((8 : Int32).toInt64) &&& 63)) ||| (((s_X1_byteAt by_ (nI (q + j2))) : Int32).toInt64))), (0, .ref t0)]) hx hb dX1_readWord_41 rfl hl (by decide) rfl (fun ls hl => ?_)
        refine lv_aload_n hx hb dX1_readWord_42 rfl (lv_at hl 1 rfl) ?_
        refine lv_dup hx hb dX1_readWord_43 rfl ?_
        refine va_get (D := D) (ci := 1) (v := .int (nI (q + j2))) (C := RX1) (T := TX1) (N := 5) hx hb hts hinX1 hown hK hP 0 rfl rfl 2 (by decide) (hts (.fieldLink RX1 24 "HoldUnless$Text" "place" "I") (by decide +kernel)) (fun _ h9 => h9) rfl dX1_readWord_44 ?_
        refine lv_iconst (v := 1) hx hb dX1_readWord_47 (by decide) ?_
        refine lv_iadd hx hb dX1_readWord_48 ?_
        refine lv_cv (nI_1 (q + j2)) ?_
        refine va_put (D := D) (ci := 1) (v := .int (nI ((q + j2) + 1))) (ty := .int) (C := RX1) (T := TX1) (N := 5) hx hb hts hinX1 tyX1 tyX1_ok nmX1 hown hK hP hD hS 0 rfl rfl 2 (by decide) (hts (.fieldLink RX1 24 "HoldUnless$Text" "place" "I") (by decide +kernel)) (fun _ h9 => h9) rfl (by decide +kernel) rfl rfl (Nat.le_of_ble_eq_true rfl) dX1_readWord_49 (fun H locs hP hD hS => ?_)
        replace hP : va_P D vwCl (wT t0 t1 ct by_ (nI len) (nI ((q + j2) + 1)) tk tp) H := hP
        replace hD : va_D A (wT t0 t1 ct by_ (nI len) (nI ((q + j2) + 1)) tk tp) := hD
        refine lv_goto (tgt := 2) hx hb dX1_readWord_52 (by decide) ?_
        exact ih2 (j2 + 1) (by omega) ((word <<< (((8 : Int32).toInt64) &&& 63)) ||| (((s_X1_byteAt by_ (nI (q + j2))) : Int32).toInt64)) (itE_succ he2 (by (unfold f_X1_readWord_2; (try dsimp only); (try rw [if_neg c_24_6]); first | done | rfl)))   _ _ hP hD hS _ (lv_sub hl [1, 0] rfl)
  exact lp2_1 (len - q) 0 (by omega) 0 (itE_zero _ _)   _ _ hP hD hS _ (lv_sub hl [1, 0] rfl)

def f_X1_advance_0 (by_ : Nat → Int32) (len : Nat) (q : Nat) (j0 : Nat) (st : Unit) : (Nat × Int32 × Int32) ⊕ (Unit) := (if (s_X1_byteAt by_ (nI (q + j0))) = 32 then (.inr ()) else (if (s_X1_byteAt by_ (nI (q + j0))) = 59 then (.inl (((q + j0) + 1), 12, (nI (q + j0)))) else (if (s_X1_isLetter (s_X1_byteAt by_ (nI (q + j0)))) = 0 then (.inl ((q + j0), 14, (nI (q + j0)))) else (match s_X1_readWord by_ len (q + j0) with | (plv_15, tkv_16) => (.inl (plv_15, tkv_16, (nI (q + j0))))))))
def s_X1_advance (by_ : Nat → Int32) (len : Nat) (q : Nat) : Nat × Int32 × Int32 := (onE (itE (f_X1_advance_0 by_ len q) () (len - q)) (fun st => match st with | () => ((q + (len - q)), 13, (nI (q + (len - q))))))
set_option maxHeartbeats 4000000 in
set_option maxRecDepth 100000 in
theorem c_X1_advance (l : Launch) (D : va_G) (t0 : Nat) (t1 : Nat) (ct : ClassId) (len : Nat) (q : Nat) (by_ : Nat → Int32) (tk : Int32) (tp : Int32) (hq : q ≤ len) (hlen : len ≤ 300) (sz : Nat) : Met l yX1_advance wsX1_advance ({ frames := 2, cells := 0, slots := 0, locals := 43 }) (va_Pc [.ref t0] (cPre D (tT t0 t1 ct) (wT t0 t1 ct by_ (nI len) (nI q) tk tp) sz)) (va_Qv (fun (u : Nat × Int32 × Int32) => (u.1, u.2.1, u.2.2) = s_X1_advance by_ len q ∧ (u.1 ≤ len)) (rwB D (fun u : Nat × Int32 × Int32 => (wT t0 t1 ct by_ (nI len) (nI u.1) u.2.1 u.2.2)) (va_A (wT t0 t1 ct by_ (nI len) (nI q) tk tp) sz)) (va_A (wT t0 t1 ct by_ (nI len) (nI q) tk tp) sz)) 0 0 (va_A (wT t0 t1 ct by_ (nI len) (nI q) tk tp) sz) := by
  refine Met.ofW (cc := cX1_advance) (maxL := 1) (ret := none) (by decide) rfl ?_
  intro p e s m args below meth c s₁ B hml hv
  obtain ⟨rfl, hsz, hP, hK, hD, hN⟩ := hv
  have hx := B.exec
  have hb := B.bytes
  have hr := B.returns
  have hts := atoms_spec (ws := wsX1_advance) B.pre
  have hown : s.vm.findClass RX1 = some m.cls := findClass_of_methodNamed B.named
  have hlocks := B.notSynchronized
  have hinX1 : ∀ w ∈ wsX10, w ∈ wsX1_advance := fun w h => List.mem_cons_of_mem _ (List.mem_append_right _ h)
  subst hsz
  replace hD := hD.self (sz := s.heap.size)
  generalize hAe : va_A (wT t0 t1 ct by_ (nI len) (nI q) tk tp) s.heap.size = A at hD ⊢
  have hA : ∀ q : Nat, s.heap.size ≤ q → A q := fun q h => by rw [← hAe]; exact Or.inr h
  have hS : va_S A s.heap s.heap [] := va_S.rf
  have hl := lv_entry ([.ref t0]) (n := 1) (Nat.le_of_ble_eq_true rfl)
  rw [lg_entry_eq]
  generalize (lg_sl ([.ref t0]) ++ List.replicate (1 - (lg_sl ([.ref t0])).length) Slot.unset).toArray = ls at hl ⊢
  replace hl : lv_has ls 1 [(0, .ref t0)] := hl
  have hKe := hK.sub (tys' := []) [] rfl
  have lp0_1 : ∀ (z_1 j0 : Nat), j0 + z_1 = len - q → ∀ (_ : Unit), itE (f_X1_advance_0 by_ len q) () j0 = .inr () → ∀  (H : Heap) (locs : List Loc), va_P D vwCl (wT t0 t1 ct by_ (nI len) (nI (q + j0)) tk tp) H → va_D A (wT t0 t1 ct by_ (nI len) (nI (q + j0)) tk tp) → va_S A s.heap H locs → ∀ ls : Array Slot, lv_has ls 1 [(0, .ref t0)] → W p l e (headSpec wsX1_advance ({ frames := 2, cells := 0, slots := 0, locals := 43 })).room s m ([.ref t0] : List Value).toArray below meth c H locs 0 0 (MQ below (va_Qv (fun (u : Nat × Int32 × Int32) => (u.1, u.2.1, u.2.2) = s_X1_advance by_ len q ∧ (u.1 ≤ len)) (rwB D (fun u : Nat × Int32 × Int32 => (wT t0 t1 ct by_ (nI len) (nI u.1) u.2.1 u.2.2)) A) A) ([.ref t0] : List Value).toArray s 0 0 A) (F0 m 0 ls []) := by
    intro z_1
    induction z_1 with
    | zero =>
      intro j0 hj0 _ he0   H locs hP hD hS ls hl
      obtain rfl : len - q = j0 := by omega
      refine lv_aload_n hx hb dX1_advance_0 rfl (lv_at hl 0 rfl) ?_
      refine va_get (D := D) (ci := 1) (v := .int (nI (q + (len - q)))) (C := RX1) (T := TX1) (N := 5) hx hb hts hinX1 hown hK hP 0 rfl rfl 2 (by decide) (hts (.fieldLink RX1 24 "HoldUnless$Text" "place" "I") (by decide +kernel)) (fun _ h9 => h9) rfl dX1_advance_1 ?_
      refine lv_aload_n hx hb dX1_advance_4 rfl (lv_at hl 0 rfl) ?_
      refine va_get (D := D) (ci := 1) (v := .int (nI len)) (C := RX1) (T := TX1) (N := 5) hx hb hts hinX1 hown hK hP 0 rfl rfl 1 (by decide) (hts (.fieldLink RX1 15 "HoldUnless$Text" "length" "I") (by decide +kernel)) (fun _ h9 => h9) rfl dX1_advance_5 ?_
      refine lv_icmp_ge (tgt := 37) hx hb dX1_advance_8 (by decide) (fun _ => ?_) (fun hh_3 => absurd (nI_le (a := len) (b := q + (len - q)) (by omega) (by omega)) hh_3)
      refine lv_aload_n hx hb dX1_advance_37 rfl (lv_at hl 0 rfl) ?_
      refine lv_aload_n hx hb dX1_advance_38 rfl (lv_at hl 0 rfl) ?_
      refine va_get (D := D) (ci := 1) (v := .int (nI (q + (len - q)))) (C := RX1) (T := TX1) (N := 5) hx hb hts hinX1 hown hK hP 0 rfl rfl 2 (by decide) (hts (.fieldLink RX1 24 "HoldUnless$Text" "place" "I") (by decide +kernel)) (fun _ h9 => h9) rfl dX1_advance_39 ?_
      refine va_put (D := D) (ci := 1) (v := .int (nI (q + (len - q)))) (ty := .int) (C := RX1) (T := TX1) (N := 5) hx hb hts hinX1 tyX1 tyX1_ok nmX1 hown hK hP hD hS 0 rfl rfl 4 (by decide) (hts (.fieldLink RX1 63 "HoldUnless$Text" "tokenPlace" "I") (by decide +kernel)) (fun _ h9 => h9) rfl (by decide +kernel) rfl rfl (Nat.le_of_ble_eq_true rfl) dX1_advance_42 (fun H locs hP hD hS => ?_)
      replace hP : va_P D vwCl (wT t0 t1 ct by_ (nI len) (nI (q + (len - q))) tk (nI (q + (len - q)))) H := hP
      replace hD : va_D A (wT t0 t1 ct by_ (nI len) (nI (q + (len - q))) tk (nI (q + (len - q)))) := hD
      refine lv_aload_n hx hb dX1_advance_45 rfl (lv_at hl 0 rfl) ?_
      refine va_get (D := D) (ci := 1) (v := .int (nI (q + (len - q)))) (C := RX1) (T := TX1) (N := 5) hx hb hts hinX1 hown hK hP 0 rfl rfl 2 (by decide) (hts (.fieldLink RX1 24 "HoldUnless$Text" "place" "I") (by decide +kernel)) (fun _ h9 => h9) rfl dX1_advance_46 ?_
      refine lv_aload_n hx hb dX1_advance_49 rfl (lv_at hl 0 rfl) ?_
      refine va_get (D := D) (ci := 1) (v := .int (nI len)) (C := RX1) (T := TX1) (N := 5) hx hb hts hinX1 hown hK hP 0 rfl rfl 1 (by decide) (hts (.fieldLink RX1 15 "HoldUnless$Text" "length" "I") (by decide +kernel)) (fun _ h9 => h9) rfl dX1_advance_50 ?_
      refine lv_icmp_lt (tgt := 65) hx hb dX1_advance_53 (by decide) (fun hh_5 => absurd hh_5 (nI_nlt (by omega) (by omega))) (fun _ => ?_)
      refine lv_aload_n hx hb dX1_advance_56 rfl (lv_at hl 0 rfl) ?_
      refine lv_bipush (v := 13) hx hb dX1_advance_57 (by decide) ?_
      refine va_put (D := D) (ci := 1) (v := .int 13) (ty := .int) (C := RX1) (T := TX1) (N := 5) hx hb hts hinX1 tyX1 tyX1_ok nmX1 hown hK hP hD hS 0 rfl rfl 3 (by decide) (hts (.fieldLink RX1 30 "HoldUnless$Text" "token" "I") (by decide +kernel)) (fun _ h9 => h9) rfl (by decide +kernel) rfl rfl (Nat.le_of_ble_eq_true rfl) dX1_advance_59 (fun H locs hP hD hS => ?_)
      replace hP : va_P D vwCl (wT t0 t1 ct by_ (nI len) (nI (q + (len - q))) 13 (nI (q + (len - q)))) H := hP
      replace hD : va_D A (wT t0 t1 ct by_ (nI len) (nI (q + (len - q))) 13 (nI (q + (len - q)))) := hD
      refine lv_goto (tgt := 124) hx hb dX1_advance_62 (by decide) ?_
      exact rw_vret hx hb hr hS hlocks ((q + (len - q)), 13, (nI (q + (len - q)))) ⟨(show s_X1_advance by_ len q = ((q + (len - q)), 13, (nI (q + (len - q)))) from by (unfold s_X1_advance; (try dsimp only); (try rw [he0]); (try dsimp only [onE]); first | done | rfl)).symm, (by first | assumption | omega | rfl)⟩ hP hD dX1_advance_124
    | succ z_1 ih0 =>
      intro j0 hj0 _ he0   H locs hP hD hS ls hl
      refine lv_aload_n hx hb dX1_advance_0 rfl (lv_at hl 0 rfl) ?_
      refine va_get (D := D) (ci := 1) (v := .int (nI (q + j0))) (C := RX1) (T := TX1) (N := 5) hx hb hts hinX1 hown hK hP 0 rfl rfl 2 (by decide) (hts (.fieldLink RX1 24 "HoldUnless$Text" "place" "I") (by decide +kernel)) (fun _ h9 => h9) rfl dX1_advance_1 ?_
      refine lv_aload_n hx hb dX1_advance_4 rfl (lv_at hl 0 rfl) ?_
      refine va_get (D := D) (ci := 1) (v := .int (nI len)) (C := RX1) (T := TX1) (N := 5) hx hb hts hinX1 hown hK hP 0 rfl rfl 1 (by decide) (hts (.fieldLink RX1 15 "HoldUnless$Text" "length" "I") (by decide +kernel)) (fun _ h9 => h9) rfl dX1_advance_5 ?_
      refine lv_icmp_ge (tgt := 37) hx hb dX1_advance_8 (by decide) (fun hh_7 => absurd hh_7 (nI_ge (a := q + j0) (b := len) (by omega) (by omega))) (fun _ => ?_)
      refine lv_aload_n hx hb dX1_advance_11 rfl (lv_at hl 0 rfl) ?_
      refine lv_aload_n hx hb dX1_advance_12 rfl (lv_at hl 0 rfl) ?_
      refine va_get (D := D) (ci := 1) (v := .int (nI (q + j0))) (C := RX1) (T := TX1) (N := 5) hx hb hts hinX1 hown hK hP 0 rfl rfl 2 (by decide) (hts (.fieldLink RX1 24 "HoldUnless$Text" "place" "I") (by decide +kernel)) (fun _ h9 => h9) rfl dX1_advance_13 ?_
      refine ro_i (D := D) (va_runV (As := [.int (nI (q + j0))]) (rest := []) ⟨hx, hb, hml, hown, hts⟩ (c_X1_byteAt l D t0 t1 ct by_ (nI len) (nI (q + j0)) tk tp (nI (q + j0))  _) (cwV 1 hts gX1_advance_X1_byteAt rfl rfl rfl (by decide +kernel) ⟨Nat.le_of_ble_eq_true rfl, Nat.le_of_ble_eq_true rfl⟩) ⟨cPre.blind, va_recv hK hP (ci := 1) (q0 := 0) rfl rfl, cPre.mk hP hK hD hN⟩ rfl rfl hl.1 rfl (lv_room (Nat.le_of_ble_eq_true rfl)) dX1_advance_16 ⟨Nat.zero_le _, Nat.zero_le _⟩) hS hA (fun H locs hkp0 hS => ?_)
      replace hP := hkp0 _ hP
      refine lv_bipush (v := 32) hx hb dX1_advance_19 (by decide) ?_
      refine lv_icmp_ne (tgt := 37) hx hb dX1_advance_21 (by decide) (fun c_21_8 => ?_) (fun c_21_8 => ?_)
      · refine lv_aload_n hx hb dX1_advance_37 rfl (lv_at hl 0 rfl) ?_
        refine lv_aload_n hx hb dX1_advance_38 rfl (lv_at hl 0 rfl) ?_
        refine va_get (D := D) (ci := 1) (v := .int (nI (q + j0))) (C := RX1) (T := TX1) (N := 5) hx hb hts hinX1 hown hK hP 0 rfl rfl 2 (by decide) (hts (.fieldLink RX1 24 "HoldUnless$Text" "place" "I") (by decide +kernel)) (fun _ h9 => h9) rfl dX1_advance_39 ?_
        refine va_put (D := D) (ci := 1) (v := .int (nI (q + j0))) (ty := .int) (C := RX1) (T := TX1) (N := 5) hx hb hts hinX1 tyX1 tyX1_ok nmX1 hown hK hP hD hS 0 rfl rfl 4 (by decide) (hts (.fieldLink RX1 63 "HoldUnless$Text" "tokenPlace" "I") (by decide +kernel)) (fun _ h9 => h9) rfl (by decide +kernel) rfl rfl (Nat.le_of_ble_eq_true rfl) dX1_advance_42 (fun H locs hP hD hS => ?_)
        replace hP : va_P D vwCl (wT t0 t1 ct by_ (nI len) (nI (q + j0)) tk (nI (q + j0))) H := hP
        replace hD : va_D A (wT t0 t1 ct by_ (nI len) (nI (q + j0)) tk (nI (q + j0))) := hD
        refine lv_aload_n hx hb dX1_advance_45 rfl (lv_at hl 0 rfl) ?_
        refine va_get (D := D) (ci := 1) (v := .int (nI (q + j0))) (C := RX1) (T := TX1) (N := 5) hx hb hts hinX1 hown hK hP 0 rfl rfl 2 (by decide) (hts (.fieldLink RX1 24 "HoldUnless$Text" "place" "I") (by decide +kernel)) (fun _ h9 => h9) rfl dX1_advance_46 ?_
        refine lv_aload_n hx hb dX1_advance_49 rfl (lv_at hl 0 rfl) ?_
        refine va_get (D := D) (ci := 1) (v := .int (nI len)) (C := RX1) (T := TX1) (N := 5) hx hb hts hinX1 hown hK hP 0 rfl rfl 1 (by decide) (hts (.fieldLink RX1 15 "HoldUnless$Text" "length" "I") (by decide +kernel)) (fun _ h9 => h9) rfl dX1_advance_50 ?_
        refine lv_icmp_lt (tgt := 65) hx hb dX1_advance_53 (by decide) (fun _ => ?_) (fun hh_10 => absurd (nI_lt (by omega) (by omega)) hh_10)
        refine lv_aload_n hx hb dX1_advance_65 rfl (lv_at hl 0 rfl) ?_
        refine lv_aload_n hx hb dX1_advance_66 rfl (lv_at hl 0 rfl) ?_
        refine va_get (D := D) (ci := 1) (v := .int (nI (q + j0))) (C := RX1) (T := TX1) (N := 5) hx hb hts hinX1 hown hK hP 0 rfl rfl 2 (by decide) (hts (.fieldLink RX1 24 "HoldUnless$Text" "place" "I") (by decide +kernel)) (fun _ h9 => h9) rfl dX1_advance_67 ?_
        refine ro_i (D := D) (va_runV (As := [.int (nI (q + j0))]) (rest := []) ⟨hx, hb, hml, hown, hts⟩ (c_X1_byteAt l D t0 t1 ct by_ (nI len) (nI (q + j0)) tk (nI (q + j0)) (nI (q + j0))  _) (cwV 1 hts gX1_advance_X1_byteAt rfl rfl rfl (by decide +kernel) ⟨Nat.le_of_ble_eq_true rfl, Nat.le_of_ble_eq_true rfl⟩) ⟨cPre.blind, va_recv hK hP (ci := 1) (q0 := 0) rfl rfl, cPre.mk hP hK hD hN⟩ rfl rfl hl.1 rfl (lv_room (Nat.le_of_ble_eq_true rfl)) dX1_advance_70 ⟨Nat.zero_le _, Nat.zero_le _⟩) hS hA (fun H locs hkp0 hS => ?_)
        replace hP := hkp0 _ hP
        refine lv_bipush (v := 59) hx hb dX1_advance_73 (by decide) ?_
        refine lv_icmp_ne (tgt := 97) hx hb dX1_advance_75 (by decide) (fun c_75_11 => ?_) (fun c_75_11 => ?_)
        · refine lv_aload_n hx hb dX1_advance_97 rfl (lv_at hl 0 rfl) ?_
          refine lv_aload_n hx hb dX1_advance_98 rfl (lv_at hl 0 rfl) ?_
          refine va_get (D := D) (ci := 1) (v := .int (nI (q + j0))) (C := RX1) (T := TX1) (N := 5) hx hb hts hinX1 hown hK hP 0 rfl rfl 2 (by decide) (hts (.fieldLink RX1 24 "HoldUnless$Text" "place" "I") (by decide +kernel)) (fun _ h9 => h9) rfl dX1_advance_99 ?_
          refine ro_i (D := D) (va_runV (As := [.int (nI (q + j0))]) (rest := []) ⟨hx, hb, hml, hown, hts⟩ (c_X1_byteAt l D t0 t1 ct by_ (nI len) (nI (q + j0)) tk (nI (q + j0)) (nI (q + j0))  _) (cwV 1 hts gX1_advance_X1_byteAt rfl rfl rfl (by decide +kernel) ⟨Nat.le_of_ble_eq_true rfl, Nat.le_of_ble_eq_true rfl⟩) ⟨cPre.blind, va_recv hK hP (ci := 1) (q0 := 0) rfl rfl, cPre.mk hP hK hD hN⟩ rfl rfl hl.1 rfl (lv_room (Nat.le_of_ble_eq_true rfl)) dX1_advance_102 ⟨Nat.zero_le _, Nat.zero_le _⟩) hS hA (fun H locs hkp0 hS => ?_)
          replace hP := hkp0 _ hP
          refine ro_i (D := D) (va_runS (As := [.int (s_X1_byteAt by_ (nI (q + j0)))]) (rest := []) ⟨hx, hb, hml, hown, hts⟩ (c_X1_isLetter l D (s_X1_byteAt by_ (nI (q + j0)))  _) (va_cwS 1 hts gX1_advance_X1_isLetter rfl rfl rfl (by decide +kernel) ⟨Nat.le_of_ble_eq_true rfl, Nat.le_of_ble_eq_true rfl⟩) ⟨cPre.blind, cPre.mk vP0 hKe vD0 hN⟩ rfl rfl hl.1 rfl (lv_room (Nat.le_of_ble_eq_true rfl)) dX1_advance_105 ⟨Nat.zero_le _, Nat.zero_le _⟩) hS hA (fun H locs hkp0 hS => ?_)
          replace hP := hkp0 _ hP
          refine lv_if_eq (tgt := 118) hx hb dX1_advance_108 (by decide) (fun c_108_12 => ?_) (fun c_108_12 => ?_)
          · refine lv_aload_n hx hb dX1_advance_118 rfl (lv_at hl 0 rfl) ?_
            refine lv_bipush (v := 14) hx hb dX1_advance_119 (by decide) ?_
            refine va_put (D := D) (ci := 1) (v := .int 14) (ty := .int) (C := RX1) (T := TX1) (N := 5) hx hb hts hinX1 tyX1 tyX1_ok nmX1 hown hK hP hD hS 0 rfl rfl 3 (by decide) (hts (.fieldLink RX1 30 "HoldUnless$Text" "token" "I") (by decide +kernel)) (fun _ h9 => h9) rfl (by decide +kernel) rfl rfl (Nat.le_of_ble_eq_true rfl) dX1_advance_121 (fun H locs hP hD hS => ?_)
            replace hP : va_P D vwCl (wT t0 t1 ct by_ (nI len) (nI (q + j0)) 14 (nI (q + j0))) H := hP
            replace hD : va_D A (wT t0 t1 ct by_ (nI len) (nI (q + j0)) 14 (nI (q + j0))) := hD
            have hs_13 : itE (f_X1_advance_0 by_ len q) () (j0 + 1) = (.inl ((q + j0), 14, (nI (q + j0)))) := itE_succ he0 (by (unfold f_X1_advance_0; (try dsimp only); (try rw [if_neg c_21_8]); (try rw [if_neg c_75_11]); (try rw [if_pos c_108_12]); first | done | rfl))
            have hn_14 := itE_stop hs_13 (len - q) (by omega)
            exact rw_vret hx hb hr hS hlocks ((q + j0), 14, (nI (q + j0))) ⟨(show s_X1_advance by_ len q = ((q + j0), 14, (nI (q + j0))) from by (unfold s_X1_advance; (try dsimp only); (try rw [hn_14]); (try dsimp only [onE]); first | done | rfl)).symm, (by first | assumption | omega | rfl)⟩ hP hD dX1_advance_124
          · refine lv_aload_n hx hb dX1_advance_111 rfl (lv_at hl 0 rfl) ?_
            have hFc := va_free (wc := (wT t0 t1 ct by_ (nI len) (nI (q + j0)) tk (nI (q + j0)))) hD hS hA [0, 1] rfl
            refine rw_v (D := D) (wc := (wT t0 t1 ct by_ (nI len) (nI (q + j0)) tk (nI (q + j0)))) (va_runV (As := []) (rest := []) ⟨hx, hb, hml, hown, hts⟩ (c_X1_readWord l D t0 t1 ct len (q + j0) by_ tk (nI (q + j0)) (by first | assumption | omega) (by first | assumption | omega) _) (cwV 0 hts gX1_advance_X1_readWord rfl rfl rfl (by decide +kernel) ⟨Nat.le_of_ble_eq_true rfl, Nat.le_of_ble_eq_true rfl⟩) ⟨cPre.blind, va_recv hK hP (ci := 1) (q0 := 0) rfl rfl, cPre.mk hP hK hD hN⟩ rfl rfl hl.1 rfl (lv_room (Nat.le_of_ble_eq_true rfl)) dX1_advance_112 ⟨Nat.zero_le _, Nat.zero_le _⟩) hS hFc (fun u H1 locs hw_18 hP1 hD1 hk1 hS => ?_)
            obtain ⟨plv_15, tkv_16⟩ := u
            try dsimp only at hw_18
            obtain ⟨hw_18, hpx_19⟩ := hw_18
            have hP : va_P D vwCl (wT t0 t1 ct by_ (nI len) (nI plv_15) tkv_16 (nI (q + j0))) H1 := hP1
            have hD : va_D A (wT t0 t1 ct by_ (nI len) (nI plv_15) tkv_16 (nI (q + j0))) := hD1.weaken (fun k q hk h => hFc _ h)
            clear hP1 hD1 hFc hk1
            generalize H1 = H at hP hS ⊢
            refine lv_goto (tgt := 124) hx hb dX1_advance_115 (by decide) ?_
            have hs_20 : itE (f_X1_advance_0 by_ len q) () (j0 + 1) = (.inl (plv_15, tkv_16, (nI (q + j0)))) := itE_succ he0 (by (unfold f_X1_advance_0; (try dsimp only); (try rw [if_neg c_21_8]); (try rw [if_neg c_75_11]); (try rw [if_neg c_108_12]); (try rw [← hw_18]); (try dsimp only); first | done | rfl))
            have hn_21 := itE_stop hs_20 (len - q) (by omega)
            exact rw_vret hx hb hr hS hlocks (plv_15, tkv_16, (nI (q + j0))) ⟨(show s_X1_advance by_ len q = (plv_15, tkv_16, (nI (q + j0))) from by (unfold s_X1_advance; (try dsimp only); (try rw [hn_21]); (try dsimp only [onE]); first | done | rfl)).symm, (by first | assumption | omega | rfl)⟩ hP hD dX1_advance_124
        · refine lv_aload_n hx hb dX1_advance_78 rfl (lv_at hl 0 rfl) ?_
          refine lv_bipush (v := 12) hx hb dX1_advance_79 (by decide) ?_
          refine va_put (D := D) (ci := 1) (v := .int 12) (ty := .int) (C := RX1) (T := TX1) (N := 5) hx hb hts hinX1 tyX1 tyX1_ok nmX1 hown hK hP hD hS 0 rfl rfl 3 (by decide) (hts (.fieldLink RX1 30 "HoldUnless$Text" "token" "I") (by decide +kernel)) (fun _ h9 => h9) rfl (by decide +kernel) rfl rfl (Nat.le_of_ble_eq_true rfl) dX1_advance_81 (fun H locs hP hD hS => ?_)
          replace hP : va_P D vwCl (wT t0 t1 ct by_ (nI len) (nI (q + j0)) 12 (nI (q + j0))) H := hP
          replace hD : va_D A (wT t0 t1 ct by_ (nI len) (nI (q + j0)) 12 (nI (q + j0))) := hD
          refine lv_aload_n hx hb dX1_advance_84 rfl (lv_at hl 0 rfl) ?_
          refine lv_dup hx hb dX1_advance_85 rfl ?_
          refine va_get (D := D) (ci := 1) (v := .int (nI (q + j0))) (C := RX1) (T := TX1) (N := 5) hx hb hts hinX1 hown hK hP 0 rfl rfl 2 (by decide) (hts (.fieldLink RX1 24 "HoldUnless$Text" "place" "I") (by decide +kernel)) (fun _ h9 => h9) rfl dX1_advance_86 ?_
          refine lv_iconst (v := 1) hx hb dX1_advance_89 (by decide) ?_
          refine lv_iadd hx hb dX1_advance_90 ?_
          refine lv_cv (nI_1 (q + j0)) ?_
          refine va_put (D := D) (ci := 1) (v := .int (nI ((q + j0) + 1))) (ty := .int) (C := RX1) (T := TX1) (N := 5) hx hb hts hinX1 tyX1 tyX1_ok nmX1 hown hK hP hD hS 0 rfl rfl 2 (by decide) (hts (.fieldLink RX1 24 "HoldUnless$Text" "place" "I") (by decide +kernel)) (fun _ h9 => h9) rfl (by decide +kernel) rfl rfl (Nat.le_of_ble_eq_true rfl) dX1_advance_91 (fun H locs hP hD hS => ?_)
          replace hP : va_P D vwCl (wT t0 t1 ct by_ (nI len) (nI ((q + j0) + 1)) 12 (nI (q + j0))) H := hP
          replace hD : va_D A (wT t0 t1 ct by_ (nI len) (nI ((q + j0) + 1)) 12 (nI (q + j0))) := hD
          refine lv_goto (tgt := 124) hx hb dX1_advance_94 (by decide) ?_
          have hs_22 : itE (f_X1_advance_0 by_ len q) () (j0 + 1) = (.inl (((q + j0) + 1), 12, (nI (q + j0)))) := itE_succ he0 (by (unfold f_X1_advance_0; (try dsimp only); (try rw [if_neg c_21_8]); (try rw [if_pos c_75_11]); first | done | rfl))
          have hn_23 := itE_stop hs_22 (len - q) (by omega)
          exact rw_vret hx hb hr hS hlocks (((q + j0) + 1), 12, (nI (q + j0))) ⟨(show s_X1_advance by_ len q = (((q + j0) + 1), 12, (nI (q + j0))) from by (unfold s_X1_advance; (try dsimp only); (try rw [hn_23]); (try dsimp only [onE]); first | done | rfl)).symm, (by first | assumption | omega | rfl)⟩ hP hD dX1_advance_124
      · refine lv_aload_n hx hb dX1_advance_24 rfl (lv_at hl 0 rfl) ?_
        refine lv_dup hx hb dX1_advance_25 rfl ?_
        refine va_get (D := D) (ci := 1) (v := .int (nI (q + j0))) (C := RX1) (T := TX1) (N := 5) hx hb hts hinX1 hown hK hP 0 rfl rfl 2 (by decide) (hts (.fieldLink RX1 24 "HoldUnless$Text" "place" "I") (by decide +kernel)) (fun _ h9 => h9) rfl dX1_advance_26 ?_
        refine lv_iconst (v := 1) hx hb dX1_advance_29 (by decide) ?_
        refine lv_iadd hx hb dX1_advance_30 ?_
        refine lv_cv (nI_1 (q + j0)) ?_
        refine va_put (D := D) (ci := 1) (v := .int (nI ((q + j0) + 1))) (ty := .int) (C := RX1) (T := TX1) (N := 5) hx hb hts hinX1 tyX1 tyX1_ok nmX1 hown hK hP hD hS 0 rfl rfl 2 (by decide) (hts (.fieldLink RX1 24 "HoldUnless$Text" "place" "I") (by decide +kernel)) (fun _ h9 => h9) rfl (by decide +kernel) rfl rfl (Nat.le_of_ble_eq_true rfl) dX1_advance_31 (fun H locs hP hD hS => ?_)
        replace hP : va_P D vwCl (wT t0 t1 ct by_ (nI len) (nI ((q + j0) + 1)) tk tp) H := hP
        replace hD : va_D A (wT t0 t1 ct by_ (nI len) (nI ((q + j0) + 1)) tk tp) := hD
        refine lv_goto (tgt := 0) hx hb dX1_advance_34 (by decide) ?_
        exact ih0 (j0 + 1) (by omega) () (itE_succ he0 (by (unfold f_X1_advance_0; (try dsimp only); (try rw [if_pos c_21_8]); first | done | rfl)))   _ _ hP hD hS _ (lv_sub hl [0] rfl)
  exact lp0_1 (len - q) 0 (by omega) () (itE_zero _ _)   _ _ hP hD hS _ (lv_sub hl [0] rfl)
end
section

def f_X1_readSentences_4 (by_ : Nat → Int32) (len : Nat) (j4 : Nat) (st : Int32 × Nat × Int32 × Int32) : (Int32 × Nat × Int32 × Int32) ⊕ (Int32 × Nat × Int32 × Int32) := match st with | (rdg, q4, tk4, tp4) => (if (s_X2_isSentence tk4) = 0 then (.inl (rdg, q4, tk4, tp4)) else (match s_X1_advance by_ len q4 with | (plv_9, tkv_10, tpv_11) => (.inr ((rdg ||| (1 <<< (tk4 &&& 31))), plv_9, tkv_10, tpv_11))))
def s_X1_readSentences (by_ : Nat → Int32) (len : Nat) (q : Nat) (tk : Int32) (tp : Int32) : Int32 × Nat × Int32 × Int32 := (onE (itE (f_X1_readSentences_4 by_ len) (0, q, tk, tp) 300) (fun st => match st with | (rdg, q4, tk4, tp4) => (rdg, q4, tk4, tp4)))
set_option maxHeartbeats 4000000 in
set_option maxRecDepth 100000 in
theorem c_X1_readSentences (l : Launch) (D : va_G) (t0 : Nat) (t1 : Nat) (ct : ClassId) (len : Nat) (q : Nat) (by_ : Nat → Int32) (tk : Int32) (tp : Int32) (hq : q ≤ len) (hlen : len ≤ 300) (sz : Nat) : Met l yX1_readSentences wsX1_readSentences ({ frames := 3, cells := 0, slots := 0, locals := 63 }) (va_Pc [.ref t0] (cPre D (tT t0 t1 ct) (wT t0 t1 ct by_ (nI len) (nI q) tk tp) sz)) (va_Qi (fun (r : Int32) (u : Nat × Int32 × Int32) => (r, u.1, u.2.1, u.2.2) = s_X1_readSentences by_ len q tk tp ∧ (u.1 ≤ len)) (rwB D (fun u : Nat × Int32 × Int32 => (wT t0 t1 ct by_ (nI len) (nI u.1) u.2.1 u.2.2)) (va_A (wT t0 t1 ct by_ (nI len) (nI q) tk tp) sz)) (va_A (wT t0 t1 ct by_ (nI len) (nI q) tk tp) sz)) 0 0 (va_A (wT t0 t1 ct by_ (nI len) (nI q) tk tp) sz) := by
  refine Met.ofW (cc := cX1_readSentences) (maxL := 3) (ret := (some .int)) (by decide) rfl ?_
  intro p e s m args below meth c s₁ B hml hv
  obtain ⟨rfl, hsz, hP, hK, hD, hN⟩ := hv
  have hx := B.exec
  have hb := B.bytes
  have hr := B.returns
  have hts := atoms_spec (ws := wsX1_readSentences) B.pre
  have hown : s.vm.findClass RX1 = some m.cls := findClass_of_methodNamed B.named
  have hlocks := B.notSynchronized
  have hinX1 : ∀ w ∈ wsX10, w ∈ wsX1_readSentences := fun w h => List.mem_cons_of_mem _ (List.mem_append_right _ h)
  subst hsz
  replace hD := hD.self (sz := s.heap.size)
  generalize hAe : va_A (wT t0 t1 ct by_ (nI len) (nI q) tk tp) s.heap.size = A at hD ⊢
  have hA : ∀ q : Nat, s.heap.size ≤ q → A q := fun q h => by rw [← hAe]; exact Or.inr h
  have hS : va_S A s.heap s.heap [] := va_S.rf
  have hl := lv_entry ([.ref t0]) (n := 3) (Nat.le_of_ble_eq_true rfl)
  rw [lg_entry_eq]
  generalize (lg_sl ([.ref t0]) ++ List.replicate (3 - (lg_sl ([.ref t0])).length) Slot.unset).toArray = ls at hl ⊢
  replace hl : lv_has ls 3 [(0, .ref t0)] := hl
  have hKe := hK.sub (tys' := []) [] rfl
  refine lv_iconst (v := 0) hx hb dX1_readSentences_0 (by decide) ?_
  refine lv_istore_n (lv' := [(1, .int 0), (0, .ref t0)]) hx hb dX1_readSentences_1 rfl hl (by decide) rfl (fun ls hl => ?_)
  refine lv_iconst (v := 0) hx hb dX1_readSentences_2 (by decide) ?_
  refine lv_istore_n (lv' := [(2, .int 0), (1, .int 0), (0, .ref t0)]) hx hb dX1_readSentences_3 rfl hl (by decide) rfl (fun ls hl => ?_)
  have lp4_1 : ∀ (z_1 j4 : Nat), j4 + z_1 = 300 → ∀ (rdg : Int32) (q4 : Nat) (tk4 : Int32) (tp4 : Int32), itE (f_X1_readSentences_4 by_ len) (0, q, tk, tp) j4 = .inr (rdg, q4, tk4, tp4) → (q4 ≤ len) → ∀  (H : Heap) (locs : List Loc), va_P D vwCl (wT t0 t1 ct by_ (nI len) (nI q4) tk4 tp4) H → va_D A (wT t0 t1 ct by_ (nI len) (nI q4) tk4 tp4) → va_S A s.heap H locs → ∀ ls : Array Slot, lv_has ls 3 [(0, .ref t0), (1, .int rdg), (2, .int (nI j4))] → W p l e (headSpec wsX1_readSentences ({ frames := 3, cells := 0, slots := 0, locals := 63 })).room s m ([.ref t0] : List Value).toArray below meth c H locs 0 0 (MQ below (va_Qi (fun (r : Int32) (u : Nat × Int32 × Int32) => (r, u.1, u.2.1, u.2.2) = s_X1_readSentences by_ len q tk tp ∧ (u.1 ≤ len)) (rwB D (fun u : Nat × Int32 × Int32 => (wT t0 t1 ct by_ (nI len) (nI u.1) u.2.1 u.2.2)) A) A) ([.ref t0] : List Value).toArray s 0 0 A) (F0 m 4 ls []) := by
    intro z_1
    induction z_1 with
    | zero =>
      intro j4 hj4 rdg q4 tk4 tp4 he4 hq4  H locs hP hD hS ls hl
      obtain rfl : 300 = j4 := by omega
      refine lv_iload_n hx hb dX1_readSentences_4 rfl (lv_at hl 2 rfl) ?_
      refine lv_sipush (v := 300) hx hb dX1_readSentences_5 (by decide) ?_
      refine lv_icmp_ge (tgt := 40) hx hb dX1_readSentences_8 (by decide) (fun _ => ?_) (fun hh_3 => absurd (nI_le (a := 300) (b := 300) (by omega) (by omega)) hh_3)
      refine lv_iload_n hx hb dX1_readSentences_40 rfl (lv_at hl 1 rfl) ?_
      exact rw_iret hx hb hr hS hlocks (q4, tk4, tp4) ⟨(show s_X1_readSentences by_ len q tk tp = (rdg, q4, tk4, tp4) from by (unfold s_X1_readSentences; (try dsimp only); (try rw [he4]); (try dsimp only [onE]); first | done | rfl)).symm, (by first | assumption | omega | rfl)⟩ hP hD dX1_readSentences_41
    | succ z_1 ih4 =>
      intro j4 hj4 rdg q4 tk4 tp4 he4 hq4  H locs hP hD hS ls hl
      refine lv_iload_n hx hb dX1_readSentences_4 rfl (lv_at hl 2 rfl) ?_
      refine lv_sipush (v := 300) hx hb dX1_readSentences_5 (by decide) ?_
      refine lv_icmp_ge (tgt := 40) hx hb dX1_readSentences_8 (by decide) (fun hh_5 => absurd hh_5 (nI_ge (a := j4) (b := 300) (by omega) (by omega))) (fun _ => ?_)
      refine lv_aload_n hx hb dX1_readSentences_11 rfl (lv_at hl 0 rfl) ?_
      refine va_get (D := D) (ci := 1) (v := .int tk4) (C := RX1) (T := TX1) (N := 5) hx hb hts hinX1 hown hK hP 0 rfl rfl 3 (by decide) (hts (.fieldLink RX1 30 "HoldUnless$Text" "token" "I") (by decide +kernel)) (fun _ h9 => h9) rfl dX1_readSentences_12 ?_
      refine ro_i (D := D) (va_runSN (As := [.int tk4]) (rest := []) ⟨hx, hb, hml, hown, hts⟩ (c_X2_isSentence l D tk4  _) ⟨(va_cnB 1 hts gX1_readSentences_X2_isSentence_n47 rfl rfl rfl (hN.nw 5 rfl) (hts (.initialized RX2) (by decide +kernel)) (by decide +kernel) ⟨Nat.le_of_ble_eq_true rfl, Nat.le_of_ble_eq_true rfl⟩), hts (.static yX2_isSentence) (by decide +kernel), trivial⟩ ⟨cPre.blind, cPre.mk vP0 hKe vD0 hN⟩ rfl rfl hl.1 rfl (lv_room (Nat.le_of_ble_eq_true rfl)) dX1_readSentences_15 ⟨Nat.zero_le _, Nat.zero_le _⟩) hS hA (fun H locs hkp0 hS => ?_)
      replace hP := hkp0 _ hP
      refine lv_if_eq (tgt := 40) hx hb dX1_readSentences_18 (by decide) (fun c_18_6 => ?_) (fun c_18_6 => ?_)
      · refine lv_iload_n hx hb dX1_readSentences_40 rfl (lv_at hl 1 rfl) ?_
        have hs_7 : itE (f_X1_readSentences_4 by_ len) (0, q, tk, tp) (j4 + 1) = (.inl (rdg, q4, tk4, tp4)) := itE_succ he4 (by (unfold f_X1_readSentences_4; (try dsimp only); (try rw [if_pos c_18_6]); first | done | rfl))
        have hn_8 := itE_stop hs_7 300 (by omega)
        exact rw_iret hx hb hr hS hlocks (q4, tk4, tp4) ⟨(show s_X1_readSentences by_ len q tk tp = (rdg, q4, tk4, tp4) from by (unfold s_X1_readSentences; (try dsimp only); (try rw [hn_8]); (try dsimp only [onE]); first | done | rfl)).symm, (by first | assumption | omega | rfl)⟩ hP hD dX1_readSentences_41
      · refine lv_iload_n hx hb dX1_readSentences_21 rfl (lv_at hl 1 rfl) ?_
        refine lv_iconst (v := 1) hx hb dX1_readSentences_22 (by decide) ?_
        refine lv_aload_n hx hb dX1_readSentences_23 rfl (lv_at hl 0 rfl) ?_
        refine va_get (D := D) (ci := 1) (v := .int tk4) (C := RX1) (T := TX1) (N := 5) hx hb hts hinX1 hown hK hP 0 rfl rfl 3 (by decide) (hts (.fieldLink RX1 30 "HoldUnless$Text" "token" "I") (by decide +kernel)) (fun _ h9 => h9) rfl dX1_readSentences_24 ?_
        refine lv_ishl hx hb dX1_readSentences_27 ?_
        refine lv_ior hx hb dX1_readSentences_28 ?_
        refine lv_istore_n (lv' := [(1, .int (rdg ||| (1 <<< (tk4 &&& 31)))), (0, .ref t0), (2, .int (nI j4))]) hx hb dX1_readSentences_29 rfl hl (by decide) rfl (fun ls hl => ?_)
        refine lv_aload_n hx hb dX1_readSentences_30 rfl (lv_at hl 1 rfl) ?_
        have hFc := va_free (wc := (wT t0 t1 ct by_ (nI len) (nI q4) tk4 tp4)) hD hS hA [0, 1] rfl
        refine rw_v (D := D) (wc := (wT t0 t1 ct by_ (nI len) (nI q4) tk4 tp4)) (va_runV (As := []) (rest := []) ⟨hx, hb, hml, hown, hts⟩ (c_X1_advance l D t0 t1 ct len q4 by_ tk4 tp4 (by first | assumption | omega) (by first | assumption | omega) _) (cwV 0 hts gX1_readSentences_X1_advance rfl rfl rfl (by decide +kernel) ⟨Nat.le_of_ble_eq_true rfl, Nat.le_of_ble_eq_true rfl⟩) ⟨cPre.blind, va_recv hK hP (ci := 1) (q0 := 0) rfl rfl, cPre.mk hP hK hD hN⟩ rfl rfl hl.1 rfl (lv_room (Nat.le_of_ble_eq_true rfl)) dX1_readSentences_31 ⟨Nat.zero_le _, Nat.zero_le _⟩) hS hFc (fun u H1 locs hw_13 hP1 hD1 hk1 hS => ?_)
        obtain ⟨plv_9, tkv_10, tpv_11⟩ := u
        try dsimp only at hw_13
        obtain ⟨hw_13, hpx_14⟩ := hw_13
        have hP : va_P D vwCl (wT t0 t1 ct by_ (nI len) (nI plv_9) tkv_10 tpv_11) H1 := hP1
        have hD : va_D A (wT t0 t1 ct by_ (nI len) (nI plv_9) tkv_10 tpv_11) := hD1.weaken (fun k q hk h => hFc _ h)
        clear hP1 hD1 hFc hk1
        generalize H1 = H at hP hS ⊢
        refine lv_iinc (v := nI (j4 + 1)) (lv' := [(2, .int (nI (j4 + 1))), (1, .int (rdg ||| (1 <<< (tk4 &&& 31)))), (0, .ref t0)]) hx hb dX1_readSentences_34 hl (k := 2) rfl (inc_nI j4) (by decide) rfl (fun ls hl => ?_)
        refine lv_goto (tgt := 4) hx hb dX1_readSentences_37 (by decide) ?_
        exact ih4 (j4 + 1) (by omega) (rdg ||| (1 <<< (tk4 &&& 31))) plv_9 tkv_10 tpv_11 (itE_succ he4 (by (unfold f_X1_readSentences_4; (try dsimp only); (try rw [if_neg c_18_6]); (try rw [← hw_13]); (try dsimp only); first | done | rfl))) (by first | assumption | omega)  _ _ hP hD hS _ (lv_sub hl [2, 1, 0] rfl)
  exact lp4_1 300 0 (by omega) 0 q tk tp (itE_zero _ _) hq  _ _ hP hD hS _ (lv_sub hl [2, 1, 0] rfl)

def s_X1_readMay (by_ : Nat → Int32) (len : Nat) (q : Nat) (may : Int32) : Int32 × Nat × Int32 × Int32 × Int32 := (match s_X1_advance by_ len q with | (plv_1, tkv_2, tpv_3) => (match s_X1_readSentences by_ len plv_1 tkv_2 tpv_3 with | (rv_10, plv_7, tkv_8, tpv_9) => (if rv_10 = 0 then (0, plv_7, tkv_8, tpv_9, may) else (if tkv_8 = 12 then (match s_X1_advance by_ len plv_7 with | (plv_15, tkv_16, tpv_17) => (1, plv_15, tkv_16, tpv_17, (may ||| rv_10))) else (0, plv_7, tkv_8, tpv_9, may)))))
set_option maxHeartbeats 4000000 in
set_option maxRecDepth 100000 in
theorem c_X1_readMay (l : Launch) (D : va_G) (t0 : Nat) (t1 : Nat) (ct : ClassId) (a0 : Nat) (a1 : Nat) (a2 : Nat) (a3 : Nat) (b1 : ClassId) (b2 : ClassId) (b3 : ClassId) (len : Nat) (q : Nat) (n : Nat) (by_ : Nat → Int32) (tk : Int32) (tp : Int32) (may : Int32) (hd : Nat → Int32) (fi : Nat → Int32) (un : Nat → Int32) (hq : q ≤ len) (hlen : len ≤ 300) (hn : n ≤ 10) (sz : Nat) : Met l yX1_readMay wsX1_readMay ({ frames := 4, cells := 0, slots := 0, locals := 85 }) (va_Pc [.ref t0, .ref a0] (cPre D (tTB t0 t1 ct a0 a1 a2 a3 b1 b2 b3) (wTB t0 t1 ct a0 a1 a2 a3 b1 b2 b3 by_ (nI len) (nI q) tk tp (nI n) may hd fi un) sz)) (va_Qi (fun (r : Int32) (u : Nat × Int32 × Int32 × Int32) => (r, u.1, u.2.1, u.2.2.1, u.2.2.2) = s_X1_readMay by_ len q may ∧ (u.1 ≤ len)) (rwB D (fun u : Nat × Int32 × Int32 × Int32 => (wTB t0 t1 ct a0 a1 a2 a3 b1 b2 b3 by_ (nI len) (nI u.1) u.2.1 u.2.2.1 (nI n) u.2.2.2 hd fi un)) (va_A (wTB t0 t1 ct a0 a1 a2 a3 b1 b2 b3 by_ (nI len) (nI q) tk tp (nI n) may hd fi un) sz)) (va_A (wTB t0 t1 ct a0 a1 a2 a3 b1 b2 b3 by_ (nI len) (nI q) tk tp (nI n) may hd fi un) sz)) 0 0 (va_A (wTB t0 t1 ct a0 a1 a2 a3 b1 b2 b3 by_ (nI len) (nI q) tk tp (nI n) may hd fi un) sz) := by
  refine Met.ofW (cc := cX1_readMay) (maxL := 3) (ret := (some .boolean)) (by decide) rfl ?_
  intro p e s m args below meth c s₁ B hml hv
  obtain ⟨rfl, hsz, hP, hK, hD, hN⟩ := hv
  have hx := B.exec
  have hb := B.bytes
  have hr := B.returns
  have hts := atoms_spec (ws := wsX1_readMay) B.pre
  have hown : s.vm.findClass RX1 = some m.cls := findClass_of_methodNamed B.named
  have hlocks := B.notSynchronized
  have hinX0 : ∀ w ∈ wsX00, w ∈ wsX1_readMay := fun w h => List.mem_cons_of_mem _ (List.mem_append_right _ h)
  have hinX1 : ∀ w ∈ wsX10, w ∈ wsX1_readMay := fun w h => List.mem_cons_of_mem _ (List.mem_append_left _ (List.mem_append_right _ h))
  subst hsz
  replace hD := hD.self (sz := s.heap.size)
  generalize hAe : va_A (wTB t0 t1 ct a0 a1 a2 a3 b1 b2 b3 by_ (nI len) (nI q) tk tp (nI n) may hd fi un) s.heap.size = A at hD ⊢
  have hA : ∀ q : Nat, s.heap.size ≤ q → A q := fun q h => by rw [← hAe]; exact Or.inr h
  have hS : va_S A s.heap s.heap [] := va_S.rf
  have hl := lv_entry ([.ref t0, .ref a0]) (n := 3) (Nat.le_of_ble_eq_true rfl)
  rw [lg_entry_eq]
  generalize (lg_sl ([.ref t0, .ref a0]) ++ List.replicate (3 - (lg_sl ([.ref t0, .ref a0])).length) Slot.unset).toArray = ls at hl ⊢
  replace hl : lv_has ls 3 [(0, .ref t0), (1, .ref a0)] := hl
  have hKe := hK.sub (tys' := []) [] rfl
  refine lv_aload_n hx hb dX1_readMay_0 rfl (lv_at hl 0 rfl) ?_
  have hPc := hP.sub (ws' := (wT t0 t1 ct by_ (nI len) (nI q) tk tp)) [0, 1] rfl
  have hDc := hD.sub (ws' := (wT t0 t1 ct by_ (nI len) (nI q) tk tp)) [0, 1] (by decide) rfl
  have hKc := hK.sub (tys' := (tT t0 t1 ct)) [0] rfl
  have hFc := va_free (wc := (wT t0 t1 ct by_ (nI len) (nI q) tk tp)) hD hS hA [0, 1] rfl
  refine rw_v (D := D) (wc := (wT t0 t1 ct by_ (nI len) (nI q) tk tp)) (va_runV (As := []) (rest := []) ⟨hx, hb, hml, hown, hts⟩ (c_X1_advance l D t0 t1 ct len q by_ tk tp (by first | assumption | omega) (by first | assumption | omega) _) (cwV 0 hts gX1_readMay_X1_advance rfl rfl rfl (by decide +kernel) ⟨Nat.le_of_ble_eq_true rfl, Nat.le_of_ble_eq_true rfl⟩) ⟨cPre.blind, va_recv hKc hPc (ci := 1) (q0 := 0) rfl rfl, cPre.mk hPc hKc hDc hN⟩ rfl rfl hl.1 rfl (lv_room (Nat.le_of_ble_eq_true rfl)) dX1_readMay_1 ⟨Nat.zero_le _, Nat.zero_le _⟩) hS hFc (fun u H1 locs hw_5 hP1 hD1 hk1 hS => ?_)
  obtain ⟨plv_1, tkv_2, tpv_3⟩ := u
  try dsimp only at hw_5
  obtain ⟨hw_5, hpx_6⟩ := hw_5
  obtain ⟨hP2, hD2⟩ := va_join (wr := [(a0, .inr (0, [.int (nI n), .int may, .ref a1, .ref a2, .ref a3])), (a1, .inl (b1, 10, .inl hd)), (a2, .inl (b2, 10, .inl fi)), (a3, .inl (b3, 10, .inl un))]) (w1 := (wT t0 t1 ct by_ (nI len) (nI plv_1) tkv_2 tpv_3)) hP hD [0, 1] [2, 3, 4, 5] rfl rfl (by decide) (by decide) hk1 hFc hP1 hD1
  have hP := hP2.sub (ws' := (wTB t0 t1 ct a0 a1 a2 a3 b1 b2 b3 by_ (nI len) (nI plv_1) tkv_2 tpv_3 (nI n) may hd fi un)) [4, 5, 0, 1, 2, 3] rfl
  have hD := hD2.sub (ws' := (wTB t0 t1 ct a0 a1 a2 a3 b1 b2 b3 by_ (nI len) (nI plv_1) tkv_2 tpv_3 (nI n) may hd fi un)) [4, 5, 0, 1, 2, 3] (by decide) rfl
  clear hP1 hD1 hFc hk1
  generalize H1 = H at hP hS ⊢
  refine lv_aload_n hx hb dX1_readMay_4 rfl (lv_at hl 0 rfl) ?_
  have hPc := hP.sub (ws' := (wT t0 t1 ct by_ (nI len) (nI plv_1) tkv_2 tpv_3)) [0, 1] rfl
  have hDc := hD.sub (ws' := (wT t0 t1 ct by_ (nI len) (nI plv_1) tkv_2 tpv_3)) [0, 1] (by decide) rfl
  have hKc := hK.sub (tys' := (tT t0 t1 ct)) [0] rfl
  have hFc := va_free (wc := (wT t0 t1 ct by_ (nI len) (nI plv_1) tkv_2 tpv_3)) hD hS hA [0, 1] rfl
  refine rw_i (D := D) (wc := (wT t0 t1 ct by_ (nI len) (nI plv_1) tkv_2 tpv_3)) (va_runV (As := []) (rest := []) ⟨hx, hb, hml, hown, hts⟩ (c_X1_readSentences l D t0 t1 ct len plv_1 by_ tkv_2 tpv_3 (by first | assumption | omega) (by first | assumption | omega) _) (cwV 0 hts gX1_readMay_X1_readSentences rfl rfl rfl (by decide +kernel) ⟨Nat.le_of_ble_eq_true rfl, Nat.le_of_ble_eq_true rfl⟩) ⟨cPre.blind, va_recv hKc hPc (ci := 1) (q0 := 0) rfl rfl, cPre.mk hPc hKc hDc hN⟩ rfl rfl hl.1 rfl (lv_room (Nat.le_of_ble_eq_true rfl)) dX1_readMay_5 ⟨Nat.zero_le _, Nat.zero_le _⟩) hS hFc (fun rv_10 u H1 locs hw_11 hP1 hD1 hk1 hS => ?_)
  obtain ⟨plv_7, tkv_8, tpv_9⟩ := u
  try dsimp only at hw_11
  obtain ⟨hw_11, hpx_12⟩ := hw_11
  obtain ⟨hP2, hD2⟩ := va_join (wr := [(a0, .inr (0, [.int (nI n), .int may, .ref a1, .ref a2, .ref a3])), (a1, .inl (b1, 10, .inl hd)), (a2, .inl (b2, 10, .inl fi)), (a3, .inl (b3, 10, .inl un))]) (w1 := (wT t0 t1 ct by_ (nI len) (nI plv_7) tkv_8 tpv_9)) hP hD [0, 1] [2, 3, 4, 5] rfl rfl (by decide) (by decide) hk1 hFc hP1 hD1
  have hP := hP2.sub (ws' := (wTB t0 t1 ct a0 a1 a2 a3 b1 b2 b3 by_ (nI len) (nI plv_7) tkv_8 tpv_9 (nI n) may hd fi un)) [4, 5, 0, 1, 2, 3] rfl
  have hD := hD2.sub (ws' := (wTB t0 t1 ct a0 a1 a2 a3 b1 b2 b3 by_ (nI len) (nI plv_7) tkv_8 tpv_9 (nI n) may hd fi un)) [4, 5, 0, 1, 2, 3] (by decide) rfl
  clear hP1 hD1 hFc hk1
  generalize H1 = H at hP hS ⊢
  refine lv_istore_n (lv' := [(2, .int rv_10), (0, .ref t0), (1, .ref a0)]) hx hb dX1_readMay_8 rfl hl (by decide) rfl (fun ls hl => ?_)
  refine lv_iload_n hx hb dX1_readMay_9 rfl (lv_at hl 0 rfl) ?_
  refine lv_if_eq (tgt := 22) hx hb dX1_readMay_10 (by decide) (fun c_10_13 => ?_) (fun c_10_13 => ?_)
  · refine lv_iconst (v := 0) hx hb dX1_readMay_22 (by decide) ?_
    exact rw_zret hx hb hr hS hlocks (plv_7, tkv_8, tpv_9, may) ⟨(show s_X1_readMay by_ len q may = (0, plv_7, tkv_8, tpv_9, may) from by (unfold s_X1_readMay; (try dsimp only); (try rw [← hw_5]); (try dsimp only); (try rw [← hw_11]); (try dsimp only); (try rw [if_pos c_10_13]); first | done | rfl)).symm, (by first | assumption | omega | rfl)⟩ hP hD (by decide +kernel) dX1_readMay_23
  · refine lv_aload_n hx hb dX1_readMay_13 rfl (lv_at hl 1 rfl) ?_
    refine va_get (D := D) (ci := 1) (v := .int tkv_8) (C := RX1) (T := TX1) (N := 5) hx hb hts hinX1 hown hK hP 0 rfl rfl 3 (by decide) (hts (.fieldLink RX1 30 "HoldUnless$Text" "token" "I") (by decide +kernel)) (fun _ h9 => h9) rfl dX1_readMay_14 ?_
    refine lv_bipush (v := 12) hx hb dX1_readMay_17 (by decide) ?_
    refine lv_icmp_eq (tgt := 24) hx hb dX1_readMay_19 (by decide) (fun c_19_14 => ?_) (fun c_19_14 => ?_)
    · refine lv_aload_n hx hb dX1_readMay_24 rfl (lv_at hl 2 rfl) ?_
      refine lv_dup hx hb dX1_readMay_25 rfl ?_
      refine va_getN (D := D) (ci := 0) (v := .int may) (C := RX0) (T := TX0) (N := 5) hx hb hts hinX0 hown hK hP 2 rfl rfl 1 (by decide) (hN.use 19 rfl) (fun _ h9 => h9) rfl dX1_readMay_26 ?_
      refine lv_iload_n hx hb dX1_readMay_29 rfl (lv_at hl 0 rfl) ?_
      refine lv_ior hx hb dX1_readMay_30 ?_
      refine va_putN (D := D) (ci := 0) (v := .int (may ||| rv_10)) (ty := .int) (C := RX0) (T := TX0) (N := 5) hx hb hts hinX0 tyX0 tyX0_ok nmX0 hown hK hP hD hS 2 rfl rfl 1 (by decide) (hN.use 19 rfl) (fun _ h9 => h9) rfl (by decide +kernel) rfl rfl (Nat.le_of_ble_eq_true rfl) dX1_readMay_31 (fun H locs hP hD hS => ?_)
      replace hP : va_P D vwCl (wTB t0 t1 ct a0 a1 a2 a3 b1 b2 b3 by_ (nI len) (nI plv_7) tkv_8 tpv_9 (nI n) (may ||| rv_10) hd fi un) H := hP
      replace hD : va_D A (wTB t0 t1 ct a0 a1 a2 a3 b1 b2 b3 by_ (nI len) (nI plv_7) tkv_8 tpv_9 (nI n) (may ||| rv_10) hd fi un) := hD
      refine lv_aload_n hx hb dX1_readMay_34 rfl (lv_at hl 1 rfl) ?_
      have hPc := hP.sub (ws' := (wT t0 t1 ct by_ (nI len) (nI plv_7) tkv_8 tpv_9)) [0, 1] rfl
      have hDc := hD.sub (ws' := (wT t0 t1 ct by_ (nI len) (nI plv_7) tkv_8 tpv_9)) [0, 1] (by decide) rfl
      have hKc := hK.sub (tys' := (tT t0 t1 ct)) [0] rfl
      have hFc := va_free (wc := (wT t0 t1 ct by_ (nI len) (nI plv_7) tkv_8 tpv_9)) hD hS hA [0, 1] rfl
      refine rw_v (D := D) (wc := (wT t0 t1 ct by_ (nI len) (nI plv_7) tkv_8 tpv_9)) (va_runV (As := []) (rest := []) ⟨hx, hb, hml, hown, hts⟩ (c_X1_advance l D t0 t1 ct len plv_7 by_ tkv_8 tpv_9 (by first | assumption | omega) (by first | assumption | omega) _) (cwV 0 hts gX1_readMay_X1_advance rfl rfl rfl (by decide +kernel) ⟨Nat.le_of_ble_eq_true rfl, Nat.le_of_ble_eq_true rfl⟩) ⟨cPre.blind, va_recv hKc hPc (ci := 1) (q0 := 0) rfl rfl, cPre.mk hPc hKc hDc hN⟩ rfl rfl hl.1 rfl (lv_room (Nat.le_of_ble_eq_true rfl)) dX1_readMay_35 ⟨Nat.zero_le _, Nat.zero_le _⟩) hS hFc (fun u H1 locs hw_19 hP1 hD1 hk1 hS => ?_)
      obtain ⟨plv_15, tkv_16, tpv_17⟩ := u
      try dsimp only at hw_19
      obtain ⟨hw_19, hpx_20⟩ := hw_19
      obtain ⟨hP2, hD2⟩ := va_join (wr := [(a0, .inr (0, [.int (nI n), .int (may ||| rv_10), .ref a1, .ref a2, .ref a3])), (a1, .inl (b1, 10, .inl hd)), (a2, .inl (b2, 10, .inl fi)), (a3, .inl (b3, 10, .inl un))]) (w1 := (wT t0 t1 ct by_ (nI len) (nI plv_15) tkv_16 tpv_17)) hP hD [0, 1] [2, 3, 4, 5] rfl rfl (by decide) (by decide) hk1 hFc hP1 hD1
      have hP := hP2.sub (ws' := (wTB t0 t1 ct a0 a1 a2 a3 b1 b2 b3 by_ (nI len) (nI plv_15) tkv_16 tpv_17 (nI n) (may ||| rv_10) hd fi un)) [4, 5, 0, 1, 2, 3] rfl
      have hD := hD2.sub (ws' := (wTB t0 t1 ct a0 a1 a2 a3 b1 b2 b3 by_ (nI len) (nI plv_15) tkv_16 tpv_17 (nI n) (may ||| rv_10) hd fi un)) [4, 5, 0, 1, 2, 3] (by decide) rfl
      clear hP1 hD1 hFc hk1
      generalize H1 = H at hP hS ⊢
      refine lv_iconst (v := 1) hx hb dX1_readMay_38 (by decide) ?_
      exact rw_zret hx hb hr hS hlocks (plv_15, tkv_16, tpv_17, (may ||| rv_10)) ⟨(show s_X1_readMay by_ len q may = (1, plv_15, tkv_16, tpv_17, (may ||| rv_10)) from by (unfold s_X1_readMay; (try dsimp only); (try rw [← hw_5]); (try dsimp only); (try rw [← hw_11]); (try dsimp only); (try rw [if_neg c_10_13]); (try rw [if_pos c_19_14]); (try rw [← hw_19]); (try dsimp only); first | done | rfl)).symm, (by first | assumption | omega | rfl)⟩ hP hD (by decide +kernel) dX1_readMay_39
    · refine lv_iconst (v := 0) hx hb dX1_readMay_22 (by decide) ?_
      exact rw_zret hx hb hr hS hlocks (plv_7, tkv_8, tpv_9, may) ⟨(show s_X1_readMay by_ len q may = (0, plv_7, tkv_8, tpv_9, may) from by (unfold s_X1_readMay; (try dsimp only); (try rw [← hw_5]); (try dsimp only); (try rw [← hw_11]); (try dsimp only); (try rw [if_neg c_10_13]); (try rw [if_neg c_19_14]); first | done | rfl)).symm, (by first | assumption | omega | rfl)⟩ hP hD (by decide +kernel) dX1_readMay_23

def j_X1_readRule_119 (by_ : Nat → Int32) (len : Nat) (n : Nat) (hd : Nat → Int32) (fi : Nat → Int32) (un : Nat → Int32) (nh : Int32) (ni : Int32) (nu : Int32) (q1 : Nat) (tk1 : Int32) (tp1 : Int32) : Int32 × Nat × Int32 × Int32 × Nat × (Nat → Int32) × (Nat → Int32) × (Nat → Int32) := (if nh = 8 then (if ni = 0 then (if nu = 0 then (0, q1, tk1, tp1, n, hd, fi, un) else (if tk1 = 12 then (match s_X0_add n hd fi un nh ni nu with | (szv_39, hdv_40, fiv_41, unv_42) => (match s_X1_advance by_ len q1 with | (plv_46, tkv_47, tpv_48) => (1, plv_46, tkv_47, tpv_48, szv_39, hdv_40, fiv_41, unv_42))) else (0, q1, tk1, tp1, n, hd, fi, un))) else (if tk1 = 12 then (match s_X0_add n hd fi un nh ni nu with | (szv_22, hdv_23, fiv_24, unv_25) => (match s_X1_advance by_ len q1 with | (plv_29, tkv_30, tpv_31) => (1, plv_29, tkv_30, tpv_31, szv_22, hdv_23, fiv_24, unv_25))) else (0, q1, tk1, tp1, n, hd, fi, un))) else (if tk1 = 12 then (match s_X0_add n hd fi un nh ni nu with | (szv_5, hdv_6, fiv_7, unv_8) => (match s_X1_advance by_ len q1 with | (plv_12, tkv_13, tpv_14) => (1, plv_12, tkv_13, tpv_14, szv_5, hdv_6, fiv_7, unv_8))) else (0, q1, tk1, tp1, n, hd, fi, un)))
def j_X1_readRule_93 (by_ : Nat → Int32) (len : Nat) (n : Nat) (hd : Nat → Int32) (fi : Nat → Int32) (un : Nat → Int32) (nh : Int32) (ni : Int32) (nu : Int32) (q1 : Nat) (tk1 : Int32) (tp1 : Int32) : Int32 × Nat × Int32 × Int32 × Nat × (Nat → Int32) × (Nat → Int32) × (Nat → Int32) := (if tk1 = 9 then (match s_X1_advance by_ len q1 with | (plv_55, tkv_56, tpv_57) => (match s_X1_readSentences by_ len plv_55 tkv_56 tpv_57 with | (rv_64, plv_61, tkv_62, tpv_63) => (if rv_64 = 0 then (0, plv_61, tkv_62, tpv_63, n, hd, fi, un) else j_X1_readRule_119 by_ len n hd fi un nh ni rv_64 plv_61 tkv_62 tpv_63))) else j_X1_readRule_119 by_ len n hd fi un nh ni nu q1 tk1 tp1)
def j_X1_readRule_57 (by_ : Nat → Int32) (len : Nat) (q : Nat) (n : Nat) (hd : Nat → Int32) (fi : Nat → Int32) (un : Nat → Int32) (nh : Int32) : Int32 × Nat × Int32 × Int32 × Nat × (Nat → Int32) × (Nat → Int32) × (Nat → Int32) := (match s_X1_advance by_ len q with | (plv_68, tkv_69, tpv_70) => (if tkv_69 = 8 then (match s_X1_advance by_ len plv_68 with | (plv_75, tkv_76, tpv_77) => (match s_X1_readSentences by_ len plv_75 tkv_76 tpv_77 with | (rv_84, plv_81, tkv_82, tpv_83) => (if rv_84 = 0 then (0, plv_81, tkv_82, tpv_83, n, hd, fi, un) else j_X1_readRule_93 by_ len n hd fi un nh rv_84 0 plv_81 tkv_82 tpv_83))) else j_X1_readRule_93 by_ len n hd fi un nh 0 0 plv_68 tkv_69 tpv_70))
def s_X1_readRule (by_ : Nat → Int32) (len : Nat) (q : Nat) (tk : Int32) (tp : Int32) (n : Nat) (hd : Nat → Int32) (fi : Nat → Int32) (un : Nat → Int32) : Int32 × Nat × Int32 × Int32 × Nat × (Nat → Int32) × (Nat → Int32) × (Nat → Int32) := (if tk = 10 then (if (s_X0_hasRoom n) = 0 then (0, q, tk, tp, n, hd, fi, un) else j_X1_readRule_57 by_ len q n hd fi un 8) else (if (s_X2_isSentence tk) = 0 then (0, q, tk, tp, n, hd, fi, un) else (if (s_X0_hasRoom n) = 0 then (0, q, tk, tp, n, hd, fi, un) else j_X1_readRule_57 by_ len q n hd fi un tk)))
set_option maxHeartbeats 4000000 in
set_option maxRecDepth 100000 in
theorem c_X1_readRule (l : Launch) (D : va_G) (t0 : Nat) (t1 : Nat) (ct : ClassId) (a0 : Nat) (a1 : Nat) (a2 : Nat) (a3 : Nat) (b1 : ClassId) (b2 : ClassId) (b3 : ClassId) (len : Nat) (q : Nat) (n : Nat) (by_ : Nat → Int32) (tk : Int32) (tp : Int32) (may : Int32) (hd : Nat → Int32) (fi : Nat → Int32) (un : Nat → Int32) (hq : q ≤ len) (hlen : len ≤ 300) (hn : n ≤ 10) (sz : Nat) : Met l yX1_readRule wsX1_readRule ({ frames := 4, cells := 0, slots := 0, locals := 85 }) (va_Pc [.ref t0, .ref a0] (cPre D (tTB t0 t1 ct a0 a1 a2 a3 b1 b2 b3) (wTB t0 t1 ct a0 a1 a2 a3 b1 b2 b3 by_ (nI len) (nI q) tk tp (nI n) may hd fi un) sz)) (va_Qi (fun (r : Int32) (u : Nat × Int32 × Int32 × Nat × (Nat → Int32) × (Nat → Int32) × (Nat → Int32)) => (r, u.1, u.2.1, u.2.2.1, u.2.2.2.1, u.2.2.2.2.1, u.2.2.2.2.2.1, u.2.2.2.2.2.2) = s_X1_readRule by_ len q tk tp n hd fi un ∧ (u.1 ≤ len) ∧ (u.2.2.2.1 ≤ 10)) (rwB D (fun u : Nat × Int32 × Int32 × Nat × (Nat → Int32) × (Nat → Int32) × (Nat → Int32) => (wTB t0 t1 ct a0 a1 a2 a3 b1 b2 b3 by_ (nI len) (nI u.1) u.2.1 u.2.2.1 (nI u.2.2.2.1) may u.2.2.2.2.1 u.2.2.2.2.2.1 u.2.2.2.2.2.2)) (va_A (wTB t0 t1 ct a0 a1 a2 a3 b1 b2 b3 by_ (nI len) (nI q) tk tp (nI n) may hd fi un) sz)) (va_A (wTB t0 t1 ct a0 a1 a2 a3 b1 b2 b3 by_ (nI len) (nI q) tk tp (nI n) may hd fi un) sz)) 0 0 (va_A (wTB t0 t1 ct a0 a1 a2 a3 b1 b2 b3 by_ (nI len) (nI q) tk tp (nI n) may hd fi un) sz) := by
  refine Met.ofW (cc := cX1_readRule) (maxL := 7) (ret := (some .boolean)) (by decide) rfl ?_
  intro p e s m args below meth c s₁ B hml hv
  obtain ⟨rfl, hsz, hP, hK, hD, hN⟩ := hv
  have hx := B.exec
  have hb := B.bytes
  have hr := B.returns
  have hts := atoms_spec (ws := wsX1_readRule) B.pre
  have hown : s.vm.findClass RX1 = some m.cls := findClass_of_methodNamed B.named
  have hlocks := B.notSynchronized
  have hinX1 : ∀ w ∈ wsX10, w ∈ wsX1_readRule := fun w h => List.mem_cons_of_mem _ (List.mem_append_left _ (List.mem_append_right _ h))
  subst hsz
  replace hD := hD.self (sz := s.heap.size)
  generalize hAe : va_A (wTB t0 t1 ct a0 a1 a2 a3 b1 b2 b3 by_ (nI len) (nI q) tk tp (nI n) may hd fi un) s.heap.size = A at hD ⊢
  have hA : ∀ q : Nat, s.heap.size ≤ q → A q := fun q h => by rw [← hAe]; exact Or.inr h
  have hS : va_S A s.heap s.heap [] := va_S.rf
  have hl := lv_entry ([.ref t0, .ref a0]) (n := 7) (Nat.le_of_ble_eq_true rfl)
  rw [lg_entry_eq]
  generalize (lg_sl ([.ref t0, .ref a0]) ++ List.replicate (7 - (lg_sl ([.ref t0, .ref a0])).length) Slot.unset).toArray = ls at hl ⊢
  replace hl : lv_has ls 7 [(0, .ref t0), (1, .ref a0)] := hl
  have hKe := hK.sub (tys' := []) [] rfl
  have cut119 : ∀ (nh : Int32) (ni : Int32) (nu : Int32) (q1 : Nat) (tk1 : Int32) (tp1 : Int32), s_X1_readRule by_ len q tk tp n hd fi un = j_X1_readRule_119 by_ len n hd fi un nh ni nu q1 tk1 tp1 → (q1 ≤ len) → ∀ (H : Heap) (locs : List Loc), va_P D vwCl (wTB t0 t1 ct a0 a1 a2 a3 b1 b2 b3 by_ (nI len) (nI q1) tk1 tp1 (nI n) may hd fi un) H → va_D A (wTB t0 t1 ct a0 a1 a2 a3 b1 b2 b3 by_ (nI len) (nI q1) tk1 tp1 (nI n) may hd fi un) → va_S A s.heap H locs → ∀ ls : Array Slot, lv_has ls 7 [(0, .ref t0), (1, .ref a0), (3, .int nh), (4, .int ni), (5, .int nu)] → W p l e (headSpec wsX1_readRule ({ frames := 4, cells := 0, slots := 0, locals := 85 })).room s m ([.ref t0, .ref a0] : List Value).toArray below meth c H locs 0 0 (MQ below (va_Qi (fun (r : Int32) (u : Nat × Int32 × Int32 × Nat × (Nat → Int32) × (Nat → Int32) × (Nat → Int32)) => (r, u.1, u.2.1, u.2.2.1, u.2.2.2.1, u.2.2.2.2.1, u.2.2.2.2.2.1, u.2.2.2.2.2.2) = s_X1_readRule by_ len q tk tp n hd fi un ∧ (u.1 ≤ len) ∧ (u.2.2.2.1 ≤ 10)) (rwB D (fun u : Nat × Int32 × Int32 × Nat × (Nat → Int32) × (Nat → Int32) × (Nat → Int32) => (wTB t0 t1 ct a0 a1 a2 a3 b1 b2 b3 by_ (nI len) (nI u.1) u.2.1 u.2.2.1 (nI u.2.2.2.1) may u.2.2.2.2.1 u.2.2.2.2.2.1 u.2.2.2.2.2.2)) A) A) ([.ref t0, .ref a0] : List Value).toArray s 0 0 A) (F0 m 119 ls []) := by
    intro nh ni nu q1 tk1 tp1 hq119 hq1 H locs hP hD hS ls hl
    refine lv_iload_n hx hb dX1_readRule_119 rfl (lv_at hl 2 rfl) ?_
    refine lv_bipush (v := 8) hx hb dX1_readRule_120 (by decide) ?_
    refine lv_icmp_ne (tgt := 139) hx hb dX1_readRule_122 (by decide) (fun c_122_1 => ?_) (fun c_122_1 => ?_)
    · refine lv_iconst (v := 0) hx hb dX1_readRule_139 (by decide) ?_
      refine lv_istore (lv' := [(6, .int 0), (0, .ref t0), (1, .ref a0), (3, .int nh), (4, .int ni), (5, .int nu)]) hx hb dX1_readRule_140 hl (by decide) rfl (fun ls hl => ?_)
      refine lv_iload hx hb dX1_readRule_142 (lv_at hl 0 rfl) ?_
      refine lv_if_ne (tgt := 156) hx hb dX1_readRule_144 (by decide) (fun hh_3 => absurd (by decide) hh_3) (fun _ => ?_)
      refine lv_aload_n hx hb dX1_readRule_147 rfl (lv_at hl 1 rfl) ?_
      refine va_get (D := D) (ci := 1) (v := .int tk1) (C := RX1) (T := TX1) (N := 5) hx hb hts hinX1 hown hK hP 0 rfl rfl 3 (by decide) (hts (.fieldLink RX1 30 "HoldUnless$Text" "token" "I") (by decide +kernel)) (fun _ h9 => h9) rfl dX1_readRule_148 ?_
      refine lv_bipush (v := 12) hx hb dX1_readRule_151 (by decide) ?_
      refine lv_icmp_eq (tgt := 158) hx hb dX1_readRule_153 (by decide) (fun c_153_4 => ?_) (fun c_153_4 => ?_)
      · refine lv_aload_n hx hb dX1_readRule_158 rfl (lv_at hl 2 rfl) ?_
        refine lv_iload_n hx hb dX1_readRule_159 rfl (lv_at hl 3 rfl) ?_
        refine lv_iload hx hb dX1_readRule_160 (lv_at hl 4 rfl) ?_
        refine lv_iload hx hb dX1_readRule_162 (lv_at hl 5 rfl) ?_
        have hPc := hP.sub (ws' := (wB a0 a1 a2 a3 b1 b2 b3 (nI n) may hd fi un)) [2, 3, 4, 5] rfl
        have hDc := hD.sub (ws' := (wB a0 a1 a2 a3 b1 b2 b3 (nI n) may hd fi un)) [2, 3, 4, 5] (by decide) rfl
        have hKc := hK.sub (tys' := (tB a0 a1 a2 a3 b1 b2 b3)) [1, 2, 3] rfl
        have hFc := va_free (wc := (wB a0 a1 a2 a3 b1 b2 b3 (nI n) may hd fi un)) hD hS hA [2, 3, 4, 5] rfl
        refine rw_v (D := D) (wc := (wB a0 a1 a2 a3 b1 b2 b3 (nI n) may hd fi un)) (va_runVN (As := [.int nh, .int ni, .int nu]) (rest := []) ⟨hx, hb, hml, hown, hts⟩ (c_X0_add l D a0 a1 a2 a3 b1 b2 b3 n may hd fi un nh ni nu (by first | assumption | omega) _) ⟨(va_cnB 3 hts gX1_readRule_X0_add_n55 rfl rfl rfl (hN.nw 7 rfl) (hts (.initialized RX0) (by decide +kernel)) (by decide +kernel) ⟨Nat.le_of_ble_eq_true rfl, Nat.le_of_ble_eq_true rfl⟩), hts (.instanceMethod yX0_add) (by decide +kernel), hts (.selects RX0 yX0_add yX0_add) (by decide +kernel)⟩ ⟨cPre.blind, va_recv hKc hPc (ci := 0) (q0 := 0) rfl rfl, cPre.mk hPc hKc hDc hN⟩ rfl rfl hl.1 rfl (lv_room (Nat.le_of_ble_eq_true rfl)) dX1_readRule_164 ⟨Nat.zero_le _, Nat.zero_le _⟩) hS hFc (fun u H1 locs hw_10 hP1 hD1 hk1 hS => ?_)
        obtain ⟨szv_5, hdv_6, fiv_7, unv_8⟩ := u
        try dsimp only at hw_10
        obtain ⟨hw_10, hpx_11⟩ := hw_10
        obtain ⟨hP2, hD2⟩ := va_join (wr := [(t0, .inr (1, [.ref t1, .int (nI len), .int (nI q1), .int tk1, .int tp1])), (t1, .inl (ct, 300, .inl by_))]) (w1 := (wB a0 a1 a2 a3 b1 b2 b3 (nI szv_5) may hdv_6 fiv_7 unv_8)) hP hD [2, 3, 4, 5] [0, 1] rfl rfl (by decide) (by decide) hk1 hFc hP1 hD1
        have hP := hP2.sub (ws' := (wTB t0 t1 ct a0 a1 a2 a3 b1 b2 b3 by_ (nI len) (nI q1) tk1 tp1 (nI szv_5) may hdv_6 fiv_7 unv_8)) [0, 1, 2, 3, 4, 5] rfl
        have hD := hD2.sub (ws' := (wTB t0 t1 ct a0 a1 a2 a3 b1 b2 b3 by_ (nI len) (nI q1) tk1 tp1 (nI szv_5) may hdv_6 fiv_7 unv_8)) [0, 1, 2, 3, 4, 5] (by decide) rfl
        clear hP1 hD1 hFc hk1
        generalize H1 = H at hP hS ⊢
        refine lv_aload_n hx hb dX1_readRule_167 rfl (lv_at hl 1 rfl) ?_
        have hPc := hP.sub (ws' := (wT t0 t1 ct by_ (nI len) (nI q1) tk1 tp1)) [0, 1] rfl
        have hDc := hD.sub (ws' := (wT t0 t1 ct by_ (nI len) (nI q1) tk1 tp1)) [0, 1] (by decide) rfl
        have hKc := hK.sub (tys' := (tT t0 t1 ct)) [0] rfl
        have hFc := va_free (wc := (wT t0 t1 ct by_ (nI len) (nI q1) tk1 tp1)) hD hS hA [0, 1] rfl
        refine rw_v (D := D) (wc := (wT t0 t1 ct by_ (nI len) (nI q1) tk1 tp1)) (va_runV (As := []) (rest := []) ⟨hx, hb, hml, hown, hts⟩ (c_X1_advance l D t0 t1 ct len q1 by_ tk1 tp1 (by first | assumption | omega) (by first | assumption | omega) _) (cwV 0 hts gX1_readRule_X1_advance rfl rfl rfl (by decide +kernel) ⟨Nat.le_of_ble_eq_true rfl, Nat.le_of_ble_eq_true rfl⟩) ⟨cPre.blind, va_recv hKc hPc (ci := 1) (q0 := 0) rfl rfl, cPre.mk hPc hKc hDc hN⟩ rfl rfl hl.1 rfl (lv_room (Nat.le_of_ble_eq_true rfl)) dX1_readRule_168 ⟨Nat.zero_le _, Nat.zero_le _⟩) hS hFc (fun u H1 locs hw_16 hP1 hD1 hk1 hS => ?_)
        obtain ⟨plv_12, tkv_13, tpv_14⟩ := u
        try dsimp only at hw_16
        obtain ⟨hw_16, hpx_17⟩ := hw_16
        obtain ⟨hP2, hD2⟩ := va_join (wr := [(a0, .inr (0, [.int (nI szv_5), .int may, .ref a1, .ref a2, .ref a3])), (a1, .inl (b1, 10, .inl hdv_6)), (a2, .inl (b2, 10, .inl fiv_7)), (a3, .inl (b3, 10, .inl unv_8))]) (w1 := (wT t0 t1 ct by_ (nI len) (nI plv_12) tkv_13 tpv_14)) hP hD [0, 1] [2, 3, 4, 5] rfl rfl (by decide) (by decide) hk1 hFc hP1 hD1
        have hP := hP2.sub (ws' := (wTB t0 t1 ct a0 a1 a2 a3 b1 b2 b3 by_ (nI len) (nI plv_12) tkv_13 tpv_14 (nI szv_5) may hdv_6 fiv_7 unv_8)) [4, 5, 0, 1, 2, 3] rfl
        have hD := hD2.sub (ws' := (wTB t0 t1 ct a0 a1 a2 a3 b1 b2 b3 by_ (nI len) (nI plv_12) tkv_13 tpv_14 (nI szv_5) may hdv_6 fiv_7 unv_8)) [4, 5, 0, 1, 2, 3] (by decide) rfl
        clear hP1 hD1 hFc hk1
        generalize H1 = H at hP hS ⊢
        refine lv_iconst (v := 1) hx hb dX1_readRule_171 (by decide) ?_
        exact rw_zret hx hb hr hS hlocks (plv_12, tkv_13, tpv_14, szv_5, hdv_6, fiv_7, unv_8) ⟨(hq119.trans (show j_X1_readRule_119 by_ len n hd fi un nh ni nu q1 tk1 tp1 = (1, plv_12, tkv_13, tpv_14, szv_5, hdv_6, fiv_7, unv_8) from by (unfold j_X1_readRule_119; (try dsimp only); (try rw [if_neg c_122_1]); (try rw [if_pos c_153_4]); (try rw [← hw_10]); (try dsimp only); (try rw [← hw_16]); (try dsimp only); first | done | rfl))).symm, (by first | assumption | omega | rfl), (by first | assumption | omega | rfl)⟩ hP hD (by decide +kernel) dX1_readRule_172
      · refine lv_iconst (v := 0) hx hb dX1_readRule_156 (by decide) ?_
        exact rw_zret hx hb hr hS hlocks (q1, tk1, tp1, n, hd, fi, un) ⟨(hq119.trans (show j_X1_readRule_119 by_ len n hd fi un nh ni nu q1 tk1 tp1 = (0, q1, tk1, tp1, n, hd, fi, un) from by (unfold j_X1_readRule_119; (try dsimp only); (try rw [if_neg c_122_1]); (try rw [if_neg c_153_4]); first | done | rfl))).symm, (by first | assumption | omega | rfl), (by first | assumption | omega | rfl)⟩ hP hD (by decide +kernel) dX1_readRule_157
    · refine lv_iload hx hb dX1_readRule_125 (lv_at hl 3 rfl) ?_
      refine lv_if_ne (tgt := 139) hx hb dX1_readRule_127 (by decide) (fun c_127_18 => ?_) (fun c_127_18 => ?_)
      · refine lv_iconst (v := 0) hx hb dX1_readRule_139 (by decide) ?_
        refine lv_istore (lv' := [(6, .int 0), (0, .ref t0), (1, .ref a0), (3, .int nh), (4, .int ni), (5, .int nu)]) hx hb dX1_readRule_140 hl (by decide) rfl (fun ls hl => ?_)
        refine lv_iload hx hb dX1_readRule_142 (lv_at hl 0 rfl) ?_
        refine lv_if_ne (tgt := 156) hx hb dX1_readRule_144 (by decide) (fun hh_20 => absurd (by decide) hh_20) (fun _ => ?_)
        refine lv_aload_n hx hb dX1_readRule_147 rfl (lv_at hl 1 rfl) ?_
        refine va_get (D := D) (ci := 1) (v := .int tk1) (C := RX1) (T := TX1) (N := 5) hx hb hts hinX1 hown hK hP 0 rfl rfl 3 (by decide) (hts (.fieldLink RX1 30 "HoldUnless$Text" "token" "I") (by decide +kernel)) (fun _ h9 => h9) rfl dX1_readRule_148 ?_
        refine lv_bipush (v := 12) hx hb dX1_readRule_151 (by decide) ?_
        refine lv_icmp_eq (tgt := 158) hx hb dX1_readRule_153 (by decide) (fun c_153_21 => ?_) (fun c_153_21 => ?_)
        · refine lv_aload_n hx hb dX1_readRule_158 rfl (lv_at hl 2 rfl) ?_
          refine lv_iload_n hx hb dX1_readRule_159 rfl (lv_at hl 3 rfl) ?_
          refine lv_iload hx hb dX1_readRule_160 (lv_at hl 4 rfl) ?_
          refine lv_iload hx hb dX1_readRule_162 (lv_at hl 5 rfl) ?_
          have hPc := hP.sub (ws' := (wB a0 a1 a2 a3 b1 b2 b3 (nI n) may hd fi un)) [2, 3, 4, 5] rfl
          have hDc := hD.sub (ws' := (wB a0 a1 a2 a3 b1 b2 b3 (nI n) may hd fi un)) [2, 3, 4, 5] (by decide) rfl
          have hKc := hK.sub (tys' := (tB a0 a1 a2 a3 b1 b2 b3)) [1, 2, 3] rfl
          have hFc := va_free (wc := (wB a0 a1 a2 a3 b1 b2 b3 (nI n) may hd fi un)) hD hS hA [2, 3, 4, 5] rfl
          refine rw_v (D := D) (wc := (wB a0 a1 a2 a3 b1 b2 b3 (nI n) may hd fi un)) (va_runVN (As := [.int nh, .int ni, .int nu]) (rest := []) ⟨hx, hb, hml, hown, hts⟩ (c_X0_add l D a0 a1 a2 a3 b1 b2 b3 n may hd fi un nh ni nu (by first | assumption | omega) _) ⟨(va_cnB 3 hts gX1_readRule_X0_add_n55 rfl rfl rfl (hN.nw 7 rfl) (hts (.initialized RX0) (by decide +kernel)) (by decide +kernel) ⟨Nat.le_of_ble_eq_true rfl, Nat.le_of_ble_eq_true rfl⟩), hts (.instanceMethod yX0_add) (by decide +kernel), hts (.selects RX0 yX0_add yX0_add) (by decide +kernel)⟩ ⟨cPre.blind, va_recv hKc hPc (ci := 0) (q0 := 0) rfl rfl, cPre.mk hPc hKc hDc hN⟩ rfl rfl hl.1 rfl (lv_room (Nat.le_of_ble_eq_true rfl)) dX1_readRule_164 ⟨Nat.zero_le _, Nat.zero_le _⟩) hS hFc (fun u H1 locs hw_27 hP1 hD1 hk1 hS => ?_)
          obtain ⟨szv_22, hdv_23, fiv_24, unv_25⟩ := u
          try dsimp only at hw_27
          obtain ⟨hw_27, hpx_28⟩ := hw_27
          obtain ⟨hP2, hD2⟩ := va_join (wr := [(t0, .inr (1, [.ref t1, .int (nI len), .int (nI q1), .int tk1, .int tp1])), (t1, .inl (ct, 300, .inl by_))]) (w1 := (wB a0 a1 a2 a3 b1 b2 b3 (nI szv_22) may hdv_23 fiv_24 unv_25)) hP hD [2, 3, 4, 5] [0, 1] rfl rfl (by decide) (by decide) hk1 hFc hP1 hD1
          have hP := hP2.sub (ws' := (wTB t0 t1 ct a0 a1 a2 a3 b1 b2 b3 by_ (nI len) (nI q1) tk1 tp1 (nI szv_22) may hdv_23 fiv_24 unv_25)) [0, 1, 2, 3, 4, 5] rfl
          have hD := hD2.sub (ws' := (wTB t0 t1 ct a0 a1 a2 a3 b1 b2 b3 by_ (nI len) (nI q1) tk1 tp1 (nI szv_22) may hdv_23 fiv_24 unv_25)) [0, 1, 2, 3, 4, 5] (by decide) rfl
          clear hP1 hD1 hFc hk1
          generalize H1 = H at hP hS ⊢
          refine lv_aload_n hx hb dX1_readRule_167 rfl (lv_at hl 1 rfl) ?_
          have hPc := hP.sub (ws' := (wT t0 t1 ct by_ (nI len) (nI q1) tk1 tp1)) [0, 1] rfl
          have hDc := hD.sub (ws' := (wT t0 t1 ct by_ (nI len) (nI q1) tk1 tp1)) [0, 1] (by decide) rfl
          have hKc := hK.sub (tys' := (tT t0 t1 ct)) [0] rfl
          have hFc := va_free (wc := (wT t0 t1 ct by_ (nI len) (nI q1) tk1 tp1)) hD hS hA [0, 1] rfl
          refine rw_v (D := D) (wc := (wT t0 t1 ct by_ (nI len) (nI q1) tk1 tp1)) (va_runV (As := []) (rest := []) ⟨hx, hb, hml, hown, hts⟩ (c_X1_advance l D t0 t1 ct len q1 by_ tk1 tp1 (by first | assumption | omega) (by first | assumption | omega) _) (cwV 0 hts gX1_readRule_X1_advance rfl rfl rfl (by decide +kernel) ⟨Nat.le_of_ble_eq_true rfl, Nat.le_of_ble_eq_true rfl⟩) ⟨cPre.blind, va_recv hKc hPc (ci := 1) (q0 := 0) rfl rfl, cPre.mk hPc hKc hDc hN⟩ rfl rfl hl.1 rfl (lv_room (Nat.le_of_ble_eq_true rfl)) dX1_readRule_168 ⟨Nat.zero_le _, Nat.zero_le _⟩) hS hFc (fun u H1 locs hw_33 hP1 hD1 hk1 hS => ?_)
          obtain ⟨plv_29, tkv_30, tpv_31⟩ := u
          try dsimp only at hw_33
          obtain ⟨hw_33, hpx_34⟩ := hw_33
          obtain ⟨hP2, hD2⟩ := va_join (wr := [(a0, .inr (0, [.int (nI szv_22), .int may, .ref a1, .ref a2, .ref a3])), (a1, .inl (b1, 10, .inl hdv_23)), (a2, .inl (b2, 10, .inl fiv_24)), (a3, .inl (b3, 10, .inl unv_25))]) (w1 := (wT t0 t1 ct by_ (nI len) (nI plv_29) tkv_30 tpv_31)) hP hD [0, 1] [2, 3, 4, 5] rfl rfl (by decide) (by decide) hk1 hFc hP1 hD1
          have hP := hP2.sub (ws' := (wTB t0 t1 ct a0 a1 a2 a3 b1 b2 b3 by_ (nI len) (nI plv_29) tkv_30 tpv_31 (nI szv_22) may hdv_23 fiv_24 unv_25)) [4, 5, 0, 1, 2, 3] rfl
          have hD := hD2.sub (ws' := (wTB t0 t1 ct a0 a1 a2 a3 b1 b2 b3 by_ (nI len) (nI plv_29) tkv_30 tpv_31 (nI szv_22) may hdv_23 fiv_24 unv_25)) [4, 5, 0, 1, 2, 3] (by decide) rfl
          clear hP1 hD1 hFc hk1
          generalize H1 = H at hP hS ⊢
          refine lv_iconst (v := 1) hx hb dX1_readRule_171 (by decide) ?_
          exact rw_zret hx hb hr hS hlocks (plv_29, tkv_30, tpv_31, szv_22, hdv_23, fiv_24, unv_25) ⟨(hq119.trans (show j_X1_readRule_119 by_ len n hd fi un nh ni nu q1 tk1 tp1 = (1, plv_29, tkv_30, tpv_31, szv_22, hdv_23, fiv_24, unv_25) from by (unfold j_X1_readRule_119; (try dsimp only); (try rw [if_pos c_122_1]); (try rw [if_neg c_127_18]); (try rw [if_pos c_153_21]); (try rw [← hw_27]); (try dsimp only); (try rw [← hw_33]); (try dsimp only); first | done | rfl))).symm, (by first | assumption | omega | rfl), (by first | assumption | omega | rfl)⟩ hP hD (by decide +kernel) dX1_readRule_172
        · refine lv_iconst (v := 0) hx hb dX1_readRule_156 (by decide) ?_
          exact rw_zret hx hb hr hS hlocks (q1, tk1, tp1, n, hd, fi, un) ⟨(hq119.trans (show j_X1_readRule_119 by_ len n hd fi un nh ni nu q1 tk1 tp1 = (0, q1, tk1, tp1, n, hd, fi, un) from by (unfold j_X1_readRule_119; (try dsimp only); (try rw [if_pos c_122_1]); (try rw [if_neg c_127_18]); (try rw [if_neg c_153_21]); first | done | rfl))).symm, (by first | assumption | omega | rfl), (by first | assumption | omega | rfl)⟩ hP hD (by decide +kernel) dX1_readRule_157
      · refine lv_iload hx hb dX1_readRule_130 (lv_at hl 4 rfl) ?_
        refine lv_if_ne (tgt := 139) hx hb dX1_readRule_132 (by decide) (fun c_132_35 => ?_) (fun c_132_35 => ?_)
        · refine lv_iconst (v := 0) hx hb dX1_readRule_139 (by decide) ?_
          refine lv_istore (lv' := [(6, .int 0), (0, .ref t0), (1, .ref a0), (3, .int nh), (4, .int ni), (5, .int nu)]) hx hb dX1_readRule_140 hl (by decide) rfl (fun ls hl => ?_)
          refine lv_iload hx hb dX1_readRule_142 (lv_at hl 0 rfl) ?_
          refine lv_if_ne (tgt := 156) hx hb dX1_readRule_144 (by decide) (fun hh_37 => absurd (by decide) hh_37) (fun _ => ?_)
          refine lv_aload_n hx hb dX1_readRule_147 rfl (lv_at hl 1 rfl) ?_
          refine va_get (D := D) (ci := 1) (v := .int tk1) (C := RX1) (T := TX1) (N := 5) hx hb hts hinX1 hown hK hP 0 rfl rfl 3 (by decide) (hts (.fieldLink RX1 30 "HoldUnless$Text" "token" "I") (by decide +kernel)) (fun _ h9 => h9) rfl dX1_readRule_148 ?_
          refine lv_bipush (v := 12) hx hb dX1_readRule_151 (by decide) ?_
          refine lv_icmp_eq (tgt := 158) hx hb dX1_readRule_153 (by decide) (fun c_153_38 => ?_) (fun c_153_38 => ?_)
          · refine lv_aload_n hx hb dX1_readRule_158 rfl (lv_at hl 2 rfl) ?_
            refine lv_iload_n hx hb dX1_readRule_159 rfl (lv_at hl 3 rfl) ?_
            refine lv_iload hx hb dX1_readRule_160 (lv_at hl 4 rfl) ?_
            refine lv_iload hx hb dX1_readRule_162 (lv_at hl 5 rfl) ?_
            have hPc := hP.sub (ws' := (wB a0 a1 a2 a3 b1 b2 b3 (nI n) may hd fi un)) [2, 3, 4, 5] rfl
            have hDc := hD.sub (ws' := (wB a0 a1 a2 a3 b1 b2 b3 (nI n) may hd fi un)) [2, 3, 4, 5] (by decide) rfl
            have hKc := hK.sub (tys' := (tB a0 a1 a2 a3 b1 b2 b3)) [1, 2, 3] rfl
            have hFc := va_free (wc := (wB a0 a1 a2 a3 b1 b2 b3 (nI n) may hd fi un)) hD hS hA [2, 3, 4, 5] rfl
            refine rw_v (D := D) (wc := (wB a0 a1 a2 a3 b1 b2 b3 (nI n) may hd fi un)) (va_runVN (As := [.int nh, .int ni, .int nu]) (rest := []) ⟨hx, hb, hml, hown, hts⟩ (c_X0_add l D a0 a1 a2 a3 b1 b2 b3 n may hd fi un nh ni nu (by first | assumption | omega) _) ⟨(va_cnB 3 hts gX1_readRule_X0_add_n55 rfl rfl rfl (hN.nw 7 rfl) (hts (.initialized RX0) (by decide +kernel)) (by decide +kernel) ⟨Nat.le_of_ble_eq_true rfl, Nat.le_of_ble_eq_true rfl⟩), hts (.instanceMethod yX0_add) (by decide +kernel), hts (.selects RX0 yX0_add yX0_add) (by decide +kernel)⟩ ⟨cPre.blind, va_recv hKc hPc (ci := 0) (q0 := 0) rfl rfl, cPre.mk hPc hKc hDc hN⟩ rfl rfl hl.1 rfl (lv_room (Nat.le_of_ble_eq_true rfl)) dX1_readRule_164 ⟨Nat.zero_le _, Nat.zero_le _⟩) hS hFc (fun u H1 locs hw_44 hP1 hD1 hk1 hS => ?_)
            obtain ⟨szv_39, hdv_40, fiv_41, unv_42⟩ := u
            try dsimp only at hw_44
            obtain ⟨hw_44, hpx_45⟩ := hw_44
            obtain ⟨hP2, hD2⟩ := va_join (wr := [(t0, .inr (1, [.ref t1, .int (nI len), .int (nI q1), .int tk1, .int tp1])), (t1, .inl (ct, 300, .inl by_))]) (w1 := (wB a0 a1 a2 a3 b1 b2 b3 (nI szv_39) may hdv_40 fiv_41 unv_42)) hP hD [2, 3, 4, 5] [0, 1] rfl rfl (by decide) (by decide) hk1 hFc hP1 hD1
            have hP := hP2.sub (ws' := (wTB t0 t1 ct a0 a1 a2 a3 b1 b2 b3 by_ (nI len) (nI q1) tk1 tp1 (nI szv_39) may hdv_40 fiv_41 unv_42)) [0, 1, 2, 3, 4, 5] rfl
            have hD := hD2.sub (ws' := (wTB t0 t1 ct a0 a1 a2 a3 b1 b2 b3 by_ (nI len) (nI q1) tk1 tp1 (nI szv_39) may hdv_40 fiv_41 unv_42)) [0, 1, 2, 3, 4, 5] (by decide) rfl
            clear hP1 hD1 hFc hk1
            generalize H1 = H at hP hS ⊢
            refine lv_aload_n hx hb dX1_readRule_167 rfl (lv_at hl 1 rfl) ?_
            have hPc := hP.sub (ws' := (wT t0 t1 ct by_ (nI len) (nI q1) tk1 tp1)) [0, 1] rfl
            have hDc := hD.sub (ws' := (wT t0 t1 ct by_ (nI len) (nI q1) tk1 tp1)) [0, 1] (by decide) rfl
            have hKc := hK.sub (tys' := (tT t0 t1 ct)) [0] rfl
            have hFc := va_free (wc := (wT t0 t1 ct by_ (nI len) (nI q1) tk1 tp1)) hD hS hA [0, 1] rfl
            refine rw_v (D := D) (wc := (wT t0 t1 ct by_ (nI len) (nI q1) tk1 tp1)) (va_runV (As := []) (rest := []) ⟨hx, hb, hml, hown, hts⟩ (c_X1_advance l D t0 t1 ct len q1 by_ tk1 tp1 (by first | assumption | omega) (by first | assumption | omega) _) (cwV 0 hts gX1_readRule_X1_advance rfl rfl rfl (by decide +kernel) ⟨Nat.le_of_ble_eq_true rfl, Nat.le_of_ble_eq_true rfl⟩) ⟨cPre.blind, va_recv hKc hPc (ci := 1) (q0 := 0) rfl rfl, cPre.mk hPc hKc hDc hN⟩ rfl rfl hl.1 rfl (lv_room (Nat.le_of_ble_eq_true rfl)) dX1_readRule_168 ⟨Nat.zero_le _, Nat.zero_le _⟩) hS hFc (fun u H1 locs hw_50 hP1 hD1 hk1 hS => ?_)
            obtain ⟨plv_46, tkv_47, tpv_48⟩ := u
            try dsimp only at hw_50
            obtain ⟨hw_50, hpx_51⟩ := hw_50
            obtain ⟨hP2, hD2⟩ := va_join (wr := [(a0, .inr (0, [.int (nI szv_39), .int may, .ref a1, .ref a2, .ref a3])), (a1, .inl (b1, 10, .inl hdv_40)), (a2, .inl (b2, 10, .inl fiv_41)), (a3, .inl (b3, 10, .inl unv_42))]) (w1 := (wT t0 t1 ct by_ (nI len) (nI plv_46) tkv_47 tpv_48)) hP hD [0, 1] [2, 3, 4, 5] rfl rfl (by decide) (by decide) hk1 hFc hP1 hD1
            have hP := hP2.sub (ws' := (wTB t0 t1 ct a0 a1 a2 a3 b1 b2 b3 by_ (nI len) (nI plv_46) tkv_47 tpv_48 (nI szv_39) may hdv_40 fiv_41 unv_42)) [4, 5, 0, 1, 2, 3] rfl
            have hD := hD2.sub (ws' := (wTB t0 t1 ct a0 a1 a2 a3 b1 b2 b3 by_ (nI len) (nI plv_46) tkv_47 tpv_48 (nI szv_39) may hdv_40 fiv_41 unv_42)) [4, 5, 0, 1, 2, 3] (by decide) rfl
            clear hP1 hD1 hFc hk1
            generalize H1 = H at hP hS ⊢
            refine lv_iconst (v := 1) hx hb dX1_readRule_171 (by decide) ?_
            exact rw_zret hx hb hr hS hlocks (plv_46, tkv_47, tpv_48, szv_39, hdv_40, fiv_41, unv_42) ⟨(hq119.trans (show j_X1_readRule_119 by_ len n hd fi un nh ni nu q1 tk1 tp1 = (1, plv_46, tkv_47, tpv_48, szv_39, hdv_40, fiv_41, unv_42) from by (unfold j_X1_readRule_119; (try dsimp only); (try rw [if_pos c_122_1]); (try rw [if_pos c_127_18]); (try rw [if_neg c_132_35]); (try rw [if_pos c_153_38]); (try rw [← hw_44]); (try dsimp only); (try rw [← hw_50]); (try dsimp only); first | done | rfl))).symm, (by first | assumption | omega | rfl), (by first | assumption | omega | rfl)⟩ hP hD (by decide +kernel) dX1_readRule_172
          · refine lv_iconst (v := 0) hx hb dX1_readRule_156 (by decide) ?_
            exact rw_zret hx hb hr hS hlocks (q1, tk1, tp1, n, hd, fi, un) ⟨(hq119.trans (show j_X1_readRule_119 by_ len n hd fi un nh ni nu q1 tk1 tp1 = (0, q1, tk1, tp1, n, hd, fi, un) from by (unfold j_X1_readRule_119; (try dsimp only); (try rw [if_pos c_122_1]); (try rw [if_pos c_127_18]); (try rw [if_neg c_132_35]); (try rw [if_neg c_153_38]); first | done | rfl))).symm, (by first | assumption | omega | rfl), (by first | assumption | omega | rfl)⟩ hP hD (by decide +kernel) dX1_readRule_157
        · refine lv_iconst (v := 1) hx hb dX1_readRule_135 (by decide) ?_
          refine lv_goto (tgt := 140) hx hb dX1_readRule_136 (by decide) ?_
          refine lv_istore (lv' := [(6, .int 1), (0, .ref t0), (1, .ref a0), (3, .int nh), (4, .int ni), (5, .int nu)]) hx hb dX1_readRule_140 hl (by decide) rfl (fun ls hl => ?_)
          refine lv_iload hx hb dX1_readRule_142 (lv_at hl 0 rfl) ?_
          refine lv_if_ne (tgt := 156) hx hb dX1_readRule_144 (by decide) (fun _ => ?_) (fun hh_53 => absurd hh_53 (by decide))
          refine lv_iconst (v := 0) hx hb dX1_readRule_156 (by decide) ?_
          exact rw_zret hx hb hr hS hlocks (q1, tk1, tp1, n, hd, fi, un) ⟨(hq119.trans (show j_X1_readRule_119 by_ len n hd fi un nh ni nu q1 tk1 tp1 = (0, q1, tk1, tp1, n, hd, fi, un) from by (unfold j_X1_readRule_119; (try dsimp only); (try rw [if_pos c_122_1]); (try rw [if_pos c_127_18]); (try rw [if_pos c_132_35]); first | done | rfl))).symm, (by first | assumption | omega | rfl), (by first | assumption | omega | rfl)⟩ hP hD (by decide +kernel) dX1_readRule_157
  have cut93 : ∀ (nh : Int32) (ni : Int32) (nu : Int32) (q1 : Nat) (tk1 : Int32) (tp1 : Int32), s_X1_readRule by_ len q tk tp n hd fi un = j_X1_readRule_93 by_ len n hd fi un nh ni nu q1 tk1 tp1 → (q1 ≤ len) → ∀ (H : Heap) (locs : List Loc), va_P D vwCl (wTB t0 t1 ct a0 a1 a2 a3 b1 b2 b3 by_ (nI len) (nI q1) tk1 tp1 (nI n) may hd fi un) H → va_D A (wTB t0 t1 ct a0 a1 a2 a3 b1 b2 b3 by_ (nI len) (nI q1) tk1 tp1 (nI n) may hd fi un) → va_S A s.heap H locs → ∀ ls : Array Slot, lv_has ls 7 [(0, .ref t0), (1, .ref a0), (3, .int nh), (4, .int ni), (5, .int nu)] → W p l e (headSpec wsX1_readRule ({ frames := 4, cells := 0, slots := 0, locals := 85 })).room s m ([.ref t0, .ref a0] : List Value).toArray below meth c H locs 0 0 (MQ below (va_Qi (fun (r : Int32) (u : Nat × Int32 × Int32 × Nat × (Nat → Int32) × (Nat → Int32) × (Nat → Int32)) => (r, u.1, u.2.1, u.2.2.1, u.2.2.2.1, u.2.2.2.2.1, u.2.2.2.2.2.1, u.2.2.2.2.2.2) = s_X1_readRule by_ len q tk tp n hd fi un ∧ (u.1 ≤ len) ∧ (u.2.2.2.1 ≤ 10)) (rwB D (fun u : Nat × Int32 × Int32 × Nat × (Nat → Int32) × (Nat → Int32) × (Nat → Int32) => (wTB t0 t1 ct a0 a1 a2 a3 b1 b2 b3 by_ (nI len) (nI u.1) u.2.1 u.2.2.1 (nI u.2.2.2.1) may u.2.2.2.2.1 u.2.2.2.2.2.1 u.2.2.2.2.2.2)) A) A) ([.ref t0, .ref a0] : List Value).toArray s 0 0 A) (F0 m 93 ls []) := by
    intro nh ni nu q1 tk1 tp1 hq93 hq1 H locs hP hD hS ls hl
    refine lv_aload_n hx hb dX1_readRule_93 rfl (lv_at hl 0 rfl) ?_
    refine va_get (D := D) (ci := 1) (v := .int tk1) (C := RX1) (T := TX1) (N := 5) hx hb hts hinX1 hown hK hP 0 rfl rfl 3 (by decide) (hts (.fieldLink RX1 30 "HoldUnless$Text" "token" "I") (by decide +kernel)) (fun _ h9 => h9) rfl dX1_readRule_94 ?_
    refine lv_bipush (v := 9) hx hb dX1_readRule_97 (by decide) ?_
    refine lv_icmp_ne (tgt := 119) hx hb dX1_readRule_99 (by decide) (fun c_99_54 => ?_) (fun c_99_54 => ?_)
    · exact cut119 nh ni nu q1 tk1 tp1 (hq93.trans (show j_X1_readRule_93 by_ len n hd fi un nh ni nu q1 tk1 tp1 = j_X1_readRule_119 by_ len n hd fi un nh ni nu q1 tk1 tp1 from by (unfold j_X1_readRule_93; (try dsimp only); (try rw [if_neg c_99_54]); first | done | rfl))) (by first | assumption | omega) _ _ hP hD hS _ (lv_sub hl [0, 1, 2, 3, 4] rfl)
    · refine lv_aload_n hx hb dX1_readRule_102 rfl (lv_at hl 0 rfl) ?_
      have hPc := hP.sub (ws' := (wT t0 t1 ct by_ (nI len) (nI q1) tk1 tp1)) [0, 1] rfl
      have hDc := hD.sub (ws' := (wT t0 t1 ct by_ (nI len) (nI q1) tk1 tp1)) [0, 1] (by decide) rfl
      have hKc := hK.sub (tys' := (tT t0 t1 ct)) [0] rfl
      have hFc := va_free (wc := (wT t0 t1 ct by_ (nI len) (nI q1) tk1 tp1)) hD hS hA [0, 1] rfl
      refine rw_v (D := D) (wc := (wT t0 t1 ct by_ (nI len) (nI q1) tk1 tp1)) (va_runV (As := []) (rest := []) ⟨hx, hb, hml, hown, hts⟩ (c_X1_advance l D t0 t1 ct len q1 by_ tk1 tp1 (by first | assumption | omega) (by first | assumption | omega) _) (cwV 0 hts gX1_readRule_X1_advance rfl rfl rfl (by decide +kernel) ⟨Nat.le_of_ble_eq_true rfl, Nat.le_of_ble_eq_true rfl⟩) ⟨cPre.blind, va_recv hKc hPc (ci := 1) (q0 := 0) rfl rfl, cPre.mk hPc hKc hDc hN⟩ rfl rfl hl.1 rfl (lv_room (Nat.le_of_ble_eq_true rfl)) dX1_readRule_103 ⟨Nat.zero_le _, Nat.zero_le _⟩) hS hFc (fun u H1 locs hw_59 hP1 hD1 hk1 hS => ?_)
      obtain ⟨plv_55, tkv_56, tpv_57⟩ := u
      try dsimp only at hw_59
      obtain ⟨hw_59, hpx_60⟩ := hw_59
      obtain ⟨hP2, hD2⟩ := va_join (wr := [(a0, .inr (0, [.int (nI n), .int may, .ref a1, .ref a2, .ref a3])), (a1, .inl (b1, 10, .inl hd)), (a2, .inl (b2, 10, .inl fi)), (a3, .inl (b3, 10, .inl un))]) (w1 := (wT t0 t1 ct by_ (nI len) (nI plv_55) tkv_56 tpv_57)) hP hD [0, 1] [2, 3, 4, 5] rfl rfl (by decide) (by decide) hk1 hFc hP1 hD1
      have hP := hP2.sub (ws' := (wTB t0 t1 ct a0 a1 a2 a3 b1 b2 b3 by_ (nI len) (nI plv_55) tkv_56 tpv_57 (nI n) may hd fi un)) [4, 5, 0, 1, 2, 3] rfl
      have hD := hD2.sub (ws' := (wTB t0 t1 ct a0 a1 a2 a3 b1 b2 b3 by_ (nI len) (nI plv_55) tkv_56 tpv_57 (nI n) may hd fi un)) [4, 5, 0, 1, 2, 3] (by decide) rfl
      clear hP1 hD1 hFc hk1
      generalize H1 = H at hP hS ⊢
      refine lv_aload_n hx hb dX1_readRule_106 rfl (lv_at hl 0 rfl) ?_
      have hPc := hP.sub (ws' := (wT t0 t1 ct by_ (nI len) (nI plv_55) tkv_56 tpv_57)) [0, 1] rfl
      have hDc := hD.sub (ws' := (wT t0 t1 ct by_ (nI len) (nI plv_55) tkv_56 tpv_57)) [0, 1] (by decide) rfl
      have hKc := hK.sub (tys' := (tT t0 t1 ct)) [0] rfl
      have hFc := va_free (wc := (wT t0 t1 ct by_ (nI len) (nI plv_55) tkv_56 tpv_57)) hD hS hA [0, 1] rfl
      refine rw_i (D := D) (wc := (wT t0 t1 ct by_ (nI len) (nI plv_55) tkv_56 tpv_57)) (va_runV (As := []) (rest := []) ⟨hx, hb, hml, hown, hts⟩ (c_X1_readSentences l D t0 t1 ct len plv_55 by_ tkv_56 tpv_57 (by first | assumption | omega) (by first | assumption | omega) _) (cwV 0 hts gX1_readRule_X1_readSentences rfl rfl rfl (by decide +kernel) ⟨Nat.le_of_ble_eq_true rfl, Nat.le_of_ble_eq_true rfl⟩) ⟨cPre.blind, va_recv hKc hPc (ci := 1) (q0 := 0) rfl rfl, cPre.mk hPc hKc hDc hN⟩ rfl rfl hl.1 rfl (lv_room (Nat.le_of_ble_eq_true rfl)) dX1_readRule_107 ⟨Nat.zero_le _, Nat.zero_le _⟩) hS hFc (fun rv_64 u H1 locs hw_65 hP1 hD1 hk1 hS => ?_)
      obtain ⟨plv_61, tkv_62, tpv_63⟩ := u
      try dsimp only at hw_65
      obtain ⟨hw_65, hpx_66⟩ := hw_65
      obtain ⟨hP2, hD2⟩ := va_join (wr := [(a0, .inr (0, [.int (nI n), .int may, .ref a1, .ref a2, .ref a3])), (a1, .inl (b1, 10, .inl hd)), (a2, .inl (b2, 10, .inl fi)), (a3, .inl (b3, 10, .inl un))]) (w1 := (wT t0 t1 ct by_ (nI len) (nI plv_61) tkv_62 tpv_63)) hP hD [0, 1] [2, 3, 4, 5] rfl rfl (by decide) (by decide) hk1 hFc hP1 hD1
      have hP := hP2.sub (ws' := (wTB t0 t1 ct a0 a1 a2 a3 b1 b2 b3 by_ (nI len) (nI plv_61) tkv_62 tpv_63 (nI n) may hd fi un)) [4, 5, 0, 1, 2, 3] rfl
      have hD := hD2.sub (ws' := (wTB t0 t1 ct a0 a1 a2 a3 b1 b2 b3 by_ (nI len) (nI plv_61) tkv_62 tpv_63 (nI n) may hd fi un)) [4, 5, 0, 1, 2, 3] (by decide) rfl
      clear hP1 hD1 hFc hk1
      generalize H1 = H at hP hS ⊢
      refine lv_istore (lv' := [(5, .int rv_64), (0, .ref t0), (1, .ref a0), (3, .int nh), (4, .int ni)]) hx hb dX1_readRule_110 hl (by decide) rfl (fun ls hl => ?_)
      refine lv_iload hx hb dX1_readRule_112 (lv_at hl 0 rfl) ?_
      refine lv_if_ne (tgt := 119) hx hb dX1_readRule_114 (by decide) (fun c_114_67 => ?_) (fun c_114_67 => ?_)
      · exact cut119 nh ni rv_64 plv_61 tkv_62 tpv_63 (hq93.trans (show j_X1_readRule_93 by_ len n hd fi un nh ni nu q1 tk1 tp1 = j_X1_readRule_119 by_ len n hd fi un nh ni rv_64 plv_61 tkv_62 tpv_63 from by (unfold j_X1_readRule_93; (try dsimp only); (try rw [if_pos c_99_54]); (try rw [← hw_59]); (try dsimp only); (try rw [← hw_65]); (try dsimp only); (try rw [if_neg c_114_67]); first | done | rfl))) (by first | assumption | omega) _ _ hP hD hS _ (lv_sub hl [1, 2, 3, 4, 0] rfl)
      · refine lv_iconst (v := 0) hx hb dX1_readRule_117 (by decide) ?_
        exact rw_zret hx hb hr hS hlocks (plv_61, tkv_62, tpv_63, n, hd, fi, un) ⟨(hq93.trans (show j_X1_readRule_93 by_ len n hd fi un nh ni nu q1 tk1 tp1 = (0, plv_61, tkv_62, tpv_63, n, hd, fi, un) from by (unfold j_X1_readRule_93; (try dsimp only); (try rw [if_pos c_99_54]); (try rw [← hw_59]); (try dsimp only); (try rw [← hw_65]); (try dsimp only); (try rw [if_pos c_114_67]); first | done | rfl))).symm, (by first | assumption | omega | rfl), (by first | assumption | omega | rfl)⟩ hP hD (by decide +kernel) dX1_readRule_118
  have cut57 : ∀ (nh : Int32), s_X1_readRule by_ len q tk tp n hd fi un = j_X1_readRule_57 by_ len q n hd fi un nh → ∀ (H : Heap) (locs : List Loc), va_P D vwCl (wTB t0 t1 ct a0 a1 a2 a3 b1 b2 b3 by_ (nI len) (nI q) tk tp (nI n) may hd fi un) H → va_D A (wTB t0 t1 ct a0 a1 a2 a3 b1 b2 b3 by_ (nI len) (nI q) tk tp (nI n) may hd fi un) → va_S A s.heap H locs → ∀ ls : Array Slot, lv_has ls 7 [(0, .ref t0), (1, .ref a0), (3, .int nh)] → W p l e (headSpec wsX1_readRule ({ frames := 4, cells := 0, slots := 0, locals := 85 })).room s m ([.ref t0, .ref a0] : List Value).toArray below meth c H locs 0 0 (MQ below (va_Qi (fun (r : Int32) (u : Nat × Int32 × Int32 × Nat × (Nat → Int32) × (Nat → Int32) × (Nat → Int32)) => (r, u.1, u.2.1, u.2.2.1, u.2.2.2.1, u.2.2.2.2.1, u.2.2.2.2.2.1, u.2.2.2.2.2.2) = s_X1_readRule by_ len q tk tp n hd fi un ∧ (u.1 ≤ len) ∧ (u.2.2.2.1 ≤ 10)) (rwB D (fun u : Nat × Int32 × Int32 × Nat × (Nat → Int32) × (Nat → Int32) × (Nat → Int32) => (wTB t0 t1 ct a0 a1 a2 a3 b1 b2 b3 by_ (nI len) (nI u.1) u.2.1 u.2.2.1 (nI u.2.2.2.1) may u.2.2.2.2.1 u.2.2.2.2.2.1 u.2.2.2.2.2.2)) A) A) ([.ref t0, .ref a0] : List Value).toArray s 0 0 A) (F0 m 57 ls []) := by
    intro nh hq57  H locs hP hD hS ls hl
    refine lv_iconst (v := 0) hx hb dX1_readRule_57 (by decide) ?_
    refine lv_istore (lv' := [(4, .int 0), (0, .ref t0), (1, .ref a0), (3, .int nh)]) hx hb dX1_readRule_58 hl (by decide) rfl (fun ls hl => ?_)
    refine lv_iconst (v := 0) hx hb dX1_readRule_60 (by decide) ?_
    refine lv_istore (lv' := [(5, .int 0), (4, .int 0), (0, .ref t0), (1, .ref a0), (3, .int nh)]) hx hb dX1_readRule_61 hl (by decide) rfl (fun ls hl => ?_)
    refine lv_aload_n hx hb dX1_readRule_63 rfl (lv_at hl 2 rfl) ?_
    have hPc := hP.sub (ws' := (wT t0 t1 ct by_ (nI len) (nI q) tk tp)) [0, 1] rfl
    have hDc := hD.sub (ws' := (wT t0 t1 ct by_ (nI len) (nI q) tk tp)) [0, 1] (by decide) rfl
    have hKc := hK.sub (tys' := (tT t0 t1 ct)) [0] rfl
    have hFc := va_free (wc := (wT t0 t1 ct by_ (nI len) (nI q) tk tp)) hD hS hA [0, 1] rfl
    refine rw_v (D := D) (wc := (wT t0 t1 ct by_ (nI len) (nI q) tk tp)) (va_runV (As := []) (rest := []) ⟨hx, hb, hml, hown, hts⟩ (c_X1_advance l D t0 t1 ct len q by_ tk tp (by first | assumption | omega) (by first | assumption | omega) _) (cwV 0 hts gX1_readRule_X1_advance rfl rfl rfl (by decide +kernel) ⟨Nat.le_of_ble_eq_true rfl, Nat.le_of_ble_eq_true rfl⟩) ⟨cPre.blind, va_recv hKc hPc (ci := 1) (q0 := 0) rfl rfl, cPre.mk hPc hKc hDc hN⟩ rfl rfl hl.1 rfl (lv_room (Nat.le_of_ble_eq_true rfl)) dX1_readRule_64 ⟨Nat.zero_le _, Nat.zero_le _⟩) hS hFc (fun u H1 locs hw_72 hP1 hD1 hk1 hS => ?_)
    obtain ⟨plv_68, tkv_69, tpv_70⟩ := u
    try dsimp only at hw_72
    obtain ⟨hw_72, hpx_73⟩ := hw_72
    obtain ⟨hP2, hD2⟩ := va_join (wr := [(a0, .inr (0, [.int (nI n), .int may, .ref a1, .ref a2, .ref a3])), (a1, .inl (b1, 10, .inl hd)), (a2, .inl (b2, 10, .inl fi)), (a3, .inl (b3, 10, .inl un))]) (w1 := (wT t0 t1 ct by_ (nI len) (nI plv_68) tkv_69 tpv_70)) hP hD [0, 1] [2, 3, 4, 5] rfl rfl (by decide) (by decide) hk1 hFc hP1 hD1
    have hP := hP2.sub (ws' := (wTB t0 t1 ct a0 a1 a2 a3 b1 b2 b3 by_ (nI len) (nI plv_68) tkv_69 tpv_70 (nI n) may hd fi un)) [4, 5, 0, 1, 2, 3] rfl
    have hD := hD2.sub (ws' := (wTB t0 t1 ct a0 a1 a2 a3 b1 b2 b3 by_ (nI len) (nI plv_68) tkv_69 tpv_70 (nI n) may hd fi un)) [4, 5, 0, 1, 2, 3] (by decide) rfl
    clear hP1 hD1 hFc hk1
    generalize H1 = H at hP hS ⊢
    refine lv_aload_n hx hb dX1_readRule_67 rfl (lv_at hl 2 rfl) ?_
    refine va_get (D := D) (ci := 1) (v := .int tkv_69) (C := RX1) (T := TX1) (N := 5) hx hb hts hinX1 hown hK hP 0 rfl rfl 3 (by decide) (hts (.fieldLink RX1 30 "HoldUnless$Text" "token" "I") (by decide +kernel)) (fun _ h9 => h9) rfl dX1_readRule_68 ?_
    refine lv_bipush (v := 8) hx hb dX1_readRule_71 (by decide) ?_
    refine lv_icmp_ne (tgt := 93) hx hb dX1_readRule_73 (by decide) (fun c_73_74 => ?_) (fun c_73_74 => ?_)
    · exact cut93 nh 0 0 plv_68 tkv_69 tpv_70 (hq57.trans (show j_X1_readRule_57 by_ len q n hd fi un nh = j_X1_readRule_93 by_ len n hd fi un nh 0 0 plv_68 tkv_69 tpv_70 from by (unfold j_X1_readRule_57; (try dsimp only); (try rw [← hw_72]); (try dsimp only); (try rw [if_neg c_73_74]); first | done | rfl))) (by first | assumption | omega) _ _ hP hD hS _ (lv_sub hl [2, 3, 4, 1, 0] rfl)
    · refine lv_aload_n hx hb dX1_readRule_76 rfl (lv_at hl 2 rfl) ?_
      have hPc := hP.sub (ws' := (wT t0 t1 ct by_ (nI len) (nI plv_68) tkv_69 tpv_70)) [0, 1] rfl
      have hDc := hD.sub (ws' := (wT t0 t1 ct by_ (nI len) (nI plv_68) tkv_69 tpv_70)) [0, 1] (by decide) rfl
      have hKc := hK.sub (tys' := (tT t0 t1 ct)) [0] rfl
      have hFc := va_free (wc := (wT t0 t1 ct by_ (nI len) (nI plv_68) tkv_69 tpv_70)) hD hS hA [0, 1] rfl
      refine rw_v (D := D) (wc := (wT t0 t1 ct by_ (nI len) (nI plv_68) tkv_69 tpv_70)) (va_runV (As := []) (rest := []) ⟨hx, hb, hml, hown, hts⟩ (c_X1_advance l D t0 t1 ct len plv_68 by_ tkv_69 tpv_70 (by first | assumption | omega) (by first | assumption | omega) _) (cwV 0 hts gX1_readRule_X1_advance rfl rfl rfl (by decide +kernel) ⟨Nat.le_of_ble_eq_true rfl, Nat.le_of_ble_eq_true rfl⟩) ⟨cPre.blind, va_recv hKc hPc (ci := 1) (q0 := 0) rfl rfl, cPre.mk hPc hKc hDc hN⟩ rfl rfl hl.1 rfl (lv_room (Nat.le_of_ble_eq_true rfl)) dX1_readRule_77 ⟨Nat.zero_le _, Nat.zero_le _⟩) hS hFc (fun u H1 locs hw_79 hP1 hD1 hk1 hS => ?_)
      obtain ⟨plv_75, tkv_76, tpv_77⟩ := u
      try dsimp only at hw_79
      obtain ⟨hw_79, hpx_80⟩ := hw_79
      obtain ⟨hP2, hD2⟩ := va_join (wr := [(a0, .inr (0, [.int (nI n), .int may, .ref a1, .ref a2, .ref a3])), (a1, .inl (b1, 10, .inl hd)), (a2, .inl (b2, 10, .inl fi)), (a3, .inl (b3, 10, .inl un))]) (w1 := (wT t0 t1 ct by_ (nI len) (nI plv_75) tkv_76 tpv_77)) hP hD [0, 1] [2, 3, 4, 5] rfl rfl (by decide) (by decide) hk1 hFc hP1 hD1
      have hP := hP2.sub (ws' := (wTB t0 t1 ct a0 a1 a2 a3 b1 b2 b3 by_ (nI len) (nI plv_75) tkv_76 tpv_77 (nI n) may hd fi un)) [4, 5, 0, 1, 2, 3] rfl
      have hD := hD2.sub (ws' := (wTB t0 t1 ct a0 a1 a2 a3 b1 b2 b3 by_ (nI len) (nI plv_75) tkv_76 tpv_77 (nI n) may hd fi un)) [4, 5, 0, 1, 2, 3] (by decide) rfl
      clear hP1 hD1 hFc hk1
      generalize H1 = H at hP hS ⊢
      refine lv_aload_n hx hb dX1_readRule_80 rfl (lv_at hl 2 rfl) ?_
      have hPc := hP.sub (ws' := (wT t0 t1 ct by_ (nI len) (nI plv_75) tkv_76 tpv_77)) [0, 1] rfl
      have hDc := hD.sub (ws' := (wT t0 t1 ct by_ (nI len) (nI plv_75) tkv_76 tpv_77)) [0, 1] (by decide) rfl
      have hKc := hK.sub (tys' := (tT t0 t1 ct)) [0] rfl
      have hFc := va_free (wc := (wT t0 t1 ct by_ (nI len) (nI plv_75) tkv_76 tpv_77)) hD hS hA [0, 1] rfl
      refine rw_i (D := D) (wc := (wT t0 t1 ct by_ (nI len) (nI plv_75) tkv_76 tpv_77)) (va_runV (As := []) (rest := []) ⟨hx, hb, hml, hown, hts⟩ (c_X1_readSentences l D t0 t1 ct len plv_75 by_ tkv_76 tpv_77 (by first | assumption | omega) (by first | assumption | omega) _) (cwV 0 hts gX1_readRule_X1_readSentences rfl rfl rfl (by decide +kernel) ⟨Nat.le_of_ble_eq_true rfl, Nat.le_of_ble_eq_true rfl⟩) ⟨cPre.blind, va_recv hKc hPc (ci := 1) (q0 := 0) rfl rfl, cPre.mk hPc hKc hDc hN⟩ rfl rfl hl.1 rfl (lv_room (Nat.le_of_ble_eq_true rfl)) dX1_readRule_81 ⟨Nat.zero_le _, Nat.zero_le _⟩) hS hFc (fun rv_84 u H1 locs hw_85 hP1 hD1 hk1 hS => ?_)
      obtain ⟨plv_81, tkv_82, tpv_83⟩ := u
      try dsimp only at hw_85
      obtain ⟨hw_85, hpx_86⟩ := hw_85
      obtain ⟨hP2, hD2⟩ := va_join (wr := [(a0, .inr (0, [.int (nI n), .int may, .ref a1, .ref a2, .ref a3])), (a1, .inl (b1, 10, .inl hd)), (a2, .inl (b2, 10, .inl fi)), (a3, .inl (b3, 10, .inl un))]) (w1 := (wT t0 t1 ct by_ (nI len) (nI plv_81) tkv_82 tpv_83)) hP hD [0, 1] [2, 3, 4, 5] rfl rfl (by decide) (by decide) hk1 hFc hP1 hD1
      have hP := hP2.sub (ws' := (wTB t0 t1 ct a0 a1 a2 a3 b1 b2 b3 by_ (nI len) (nI plv_81) tkv_82 tpv_83 (nI n) may hd fi un)) [4, 5, 0, 1, 2, 3] rfl
      have hD := hD2.sub (ws' := (wTB t0 t1 ct a0 a1 a2 a3 b1 b2 b3 by_ (nI len) (nI plv_81) tkv_82 tpv_83 (nI n) may hd fi un)) [4, 5, 0, 1, 2, 3] (by decide) rfl
      clear hP1 hD1 hFc hk1
      generalize H1 = H at hP hS ⊢
      refine lv_istore (lv' := [(4, .int rv_84), (5, .int 0), (0, .ref t0), (1, .ref a0), (3, .int nh)]) hx hb dX1_readRule_84 hl (by decide) rfl (fun ls hl => ?_)
      refine lv_iload hx hb dX1_readRule_86 (lv_at hl 0 rfl) ?_
      refine lv_if_ne (tgt := 93) hx hb dX1_readRule_88 (by decide) (fun c_88_87 => ?_) (fun c_88_87 => ?_)
      · exact cut93 nh rv_84 0 plv_81 tkv_82 tpv_83 (hq57.trans (show j_X1_readRule_57 by_ len q n hd fi un nh = j_X1_readRule_93 by_ len n hd fi un nh rv_84 0 plv_81 tkv_82 tpv_83 from by (unfold j_X1_readRule_57; (try dsimp only); (try rw [← hw_72]); (try dsimp only); (try rw [if_pos c_73_74]); (try rw [← hw_79]); (try dsimp only); (try rw [← hw_85]); (try dsimp only); (try rw [if_neg c_88_87]); first | done | rfl))) (by first | assumption | omega) _ _ hP hD hS _ (lv_sub hl [2, 3, 4, 0, 1] rfl)
      · refine lv_iconst (v := 0) hx hb dX1_readRule_91 (by decide) ?_
        exact rw_zret hx hb hr hS hlocks (plv_81, tkv_82, tpv_83, n, hd, fi, un) ⟨(hq57.trans (show j_X1_readRule_57 by_ len q n hd fi un nh = (0, plv_81, tkv_82, tpv_83, n, hd, fi, un) from by (unfold j_X1_readRule_57; (try dsimp only); (try rw [← hw_72]); (try dsimp only); (try rw [if_pos c_73_74]); (try rw [← hw_79]); (try dsimp only); (try rw [← hw_85]); (try dsimp only); (try rw [if_pos c_88_87]); first | done | rfl))).symm, (by first | assumption | omega | rfl), (by first | assumption | omega | rfl)⟩ hP hD (by decide +kernel) dX1_readRule_92
  refine lv_aload_n hx hb dX1_readRule_0 rfl (lv_at hl 0 rfl) ?_
  refine va_get (D := D) (ci := 1) (v := .int tk) (C := RX1) (T := TX1) (N := 5) hx hb hts hinX1 hown hK hP 0 rfl rfl 3 (by decide) (hts (.fieldLink RX1 30 "HoldUnless$Text" "token" "I") (by decide +kernel)) (fun _ h9 => h9) rfl dX1_readRule_1 ?_
  refine lv_bipush (v := 10) hx hb dX1_readRule_4 (by decide) ?_
  refine lv_icmp_eq (tgt := 19) hx hb dX1_readRule_6 (by decide) (fun c_6_88 => ?_) (fun c_6_88 => ?_)
  · refine lv_iconst (v := 1) hx hb dX1_readRule_19 (by decide) ?_
    refine lv_goto (tgt := 24) hx hb dX1_readRule_20 (by decide) ?_
    refine lv_istore_n (lv' := [(2, .int 1), (0, .ref t0), (1, .ref a0)]) hx hb dX1_readRule_24 rfl hl (by decide) rfl (fun ls hl => ?_)
    refine lv_iload_n hx hb dX1_readRule_25 rfl (lv_at hl 0 rfl) ?_
    refine lv_if_eq (tgt := 36) hx hb dX1_readRule_26 (by decide) (fun hh_90 => absurd hh_90 (by decide)) (fun _ => ?_)
    refine lv_aload_n hx hb dX1_readRule_29 rfl (lv_at hl 2 rfl) ?_
    have hPc := hP.sub (ws' := (wB a0 a1 a2 a3 b1 b2 b3 (nI n) may hd fi un)) [2, 3, 4, 5] rfl
    have hDc := hD.sub (ws' := (wB a0 a1 a2 a3 b1 b2 b3 (nI n) may hd fi un)) [2, 3, 4, 5] (by decide) rfl
    have hKc := hK.sub (tys' := (tB a0 a1 a2 a3 b1 b2 b3)) [1, 2, 3] rfl
    refine ro_i (D := D) (va_runVN (As := []) (rest := []) ⟨hx, hb, hml, hown, hts⟩ (c_X0_hasRoom l D a0 a1 a2 a3 b1 b2 b3 n may hd fi un (by first | assumption | omega) _) ⟨(va_cnB 0 hts gX1_readRule_X0_hasRoom_n51 rfl rfl rfl (hN.nw 6 rfl) (hts (.initialized RX0) (by decide +kernel)) (by decide +kernel) ⟨Nat.le_of_ble_eq_true rfl, Nat.le_of_ble_eq_true rfl⟩), hts (.instanceMethod yX0_hasRoom) (by decide +kernel), hts (.selects RX0 yX0_hasRoom yX0_hasRoom) (by decide +kernel)⟩ ⟨cPre.blind, va_recv hKc hPc (ci := 0) (q0 := 0) rfl rfl, cPre.mk hPc hKc hDc hN⟩ rfl rfl hl.1 rfl (lv_room (Nat.le_of_ble_eq_true rfl)) dX1_readRule_30 ⟨Nat.zero_le _, Nat.zero_le _⟩) hS hA (fun H locs hkp0 hS => ?_)
    replace hP := hkp0 _ hP
    refine lv_if_ne (tgt := 38) hx hb dX1_readRule_33 (by decide) (fun c_33_91 => ?_) (fun c_33_91 => ?_)
    · refine lv_aload_n hx hb dX1_readRule_38 rfl (lv_at hl 1 rfl) ?_
      refine va_get (D := D) (ci := 1) (v := .int tk) (C := RX1) (T := TX1) (N := 5) hx hb hts hinX1 hown hK hP 0 rfl rfl 3 (by decide) (hts (.fieldLink RX1 30 "HoldUnless$Text" "token" "I") (by decide +kernel)) (fun _ h9 => h9) rfl dX1_readRule_39 ?_
      refine lv_bipush (v := 10) hx hb dX1_readRule_42 (by decide) ?_
      refine lv_icmp_ne (tgt := 52) hx hb dX1_readRule_44 (by decide) (fun hh_93 => absurd c_6_88 hh_93) (fun _ => ?_)
      refine lv_bipush (v := 8) hx hb dX1_readRule_47 (by decide) ?_
      refine lv_goto (tgt := 56) hx hb dX1_readRule_49 (by decide) ?_
      refine lv_istore_n (lv' := [(3, .int 8), (2, .int 1), (0, .ref t0), (1, .ref a0)]) hx hb dX1_readRule_56 rfl hl (by decide) rfl (fun ls hl => ?_)
      exact cut57 8 (show s_X1_readRule by_ len q tk tp n hd fi un = j_X1_readRule_57 by_ len q n hd fi un 8 from by (unfold s_X1_readRule; (try dsimp only); (try rw [if_pos c_6_88]); (try rw [if_neg c_33_91]); first | done | rfl))  _ _ hP hD hS _ (lv_sub hl [2, 3, 0] rfl)
    · refine lv_iconst (v := 0) hx hb dX1_readRule_36 (by decide) ?_
      exact rw_zret hx hb hr hS hlocks (q, tk, tp, n, hd, fi, un) ⟨(show s_X1_readRule by_ len q tk tp n hd fi un = (0, q, tk, tp, n, hd, fi, un) from by (unfold s_X1_readRule; (try dsimp only); (try rw [if_pos c_6_88]); (try rw [if_pos c_33_91]); first | done | rfl)).symm, (by first | assumption | omega | rfl), (by first | assumption | omega | rfl)⟩ hP hD (by decide +kernel) dX1_readRule_37
  · refine lv_aload_n hx hb dX1_readRule_9 rfl (lv_at hl 0 rfl) ?_
    refine va_get (D := D) (ci := 1) (v := .int tk) (C := RX1) (T := TX1) (N := 5) hx hb hts hinX1 hown hK hP 0 rfl rfl 3 (by decide) (hts (.fieldLink RX1 30 "HoldUnless$Text" "token" "I") (by decide +kernel)) (fun _ h9 => h9) rfl dX1_readRule_10 ?_
    refine ro_i (D := D) (va_runSN (As := [.int tk]) (rest := []) ⟨hx, hb, hml, hown, hts⟩ (c_X2_isSentence l D tk  _) ⟨(va_cnB 1 hts gX1_readRule_X2_isSentence_n47 rfl rfl rfl (hN.nw 5 rfl) (hts (.initialized RX2) (by decide +kernel)) (by decide +kernel) ⟨Nat.le_of_ble_eq_true rfl, Nat.le_of_ble_eq_true rfl⟩), hts (.static yX2_isSentence) (by decide +kernel), trivial⟩ ⟨cPre.blind, cPre.mk vP0 hKe vD0 hN⟩ rfl rfl hl.1 rfl (lv_room (Nat.le_of_ble_eq_true rfl)) dX1_readRule_13 ⟨Nat.zero_le _, Nat.zero_le _⟩) hS hA (fun H locs hkp0 hS => ?_)
    replace hP := hkp0 _ hP
    refine lv_if_eq (tgt := 23) hx hb dX1_readRule_16 (by decide) (fun c_16_94 => ?_) (fun c_16_94 => ?_)
    · refine lv_iconst (v := 0) hx hb dX1_readRule_23 (by decide) ?_
      refine lv_istore_n (lv' := [(2, .int 0), (0, .ref t0), (1, .ref a0)]) hx hb dX1_readRule_24 rfl hl (by decide) rfl (fun ls hl => ?_)
      refine lv_iload_n hx hb dX1_readRule_25 rfl (lv_at hl 0 rfl) ?_
      refine lv_if_eq (tgt := 36) hx hb dX1_readRule_26 (by decide) (fun _ => ?_) (fun hh_96 => absurd (by decide) hh_96)
      refine lv_iconst (v := 0) hx hb dX1_readRule_36 (by decide) ?_
      exact rw_zret hx hb hr hS hlocks (q, tk, tp, n, hd, fi, un) ⟨(show s_X1_readRule by_ len q tk tp n hd fi un = (0, q, tk, tp, n, hd, fi, un) from by (unfold s_X1_readRule; (try dsimp only); (try rw [if_neg c_6_88]); (try rw [if_pos c_16_94]); first | done | rfl)).symm, (by first | assumption | omega | rfl), (by first | assumption | omega | rfl)⟩ hP hD (by decide +kernel) dX1_readRule_37
    · refine lv_iconst (v := 1) hx hb dX1_readRule_19 (by decide) ?_
      refine lv_goto (tgt := 24) hx hb dX1_readRule_20 (by decide) ?_
      refine lv_istore_n (lv' := [(2, .int 1), (0, .ref t0), (1, .ref a0)]) hx hb dX1_readRule_24 rfl hl (by decide) rfl (fun ls hl => ?_)
      refine lv_iload_n hx hb dX1_readRule_25 rfl (lv_at hl 0 rfl) ?_
      refine lv_if_eq (tgt := 36) hx hb dX1_readRule_26 (by decide) (fun hh_98 => absurd hh_98 (by decide)) (fun _ => ?_)
      refine lv_aload_n hx hb dX1_readRule_29 rfl (lv_at hl 2 rfl) ?_
      have hPc := hP.sub (ws' := (wB a0 a1 a2 a3 b1 b2 b3 (nI n) may hd fi un)) [2, 3, 4, 5] rfl
      have hDc := hD.sub (ws' := (wB a0 a1 a2 a3 b1 b2 b3 (nI n) may hd fi un)) [2, 3, 4, 5] (by decide) rfl
      have hKc := hK.sub (tys' := (tB a0 a1 a2 a3 b1 b2 b3)) [1, 2, 3] rfl
      refine ro_i (D := D) (va_runVN (As := []) (rest := []) ⟨hx, hb, hml, hown, hts⟩ (c_X0_hasRoom l D a0 a1 a2 a3 b1 b2 b3 n may hd fi un (by first | assumption | omega) _) ⟨(va_cnB 0 hts gX1_readRule_X0_hasRoom_n51 rfl rfl rfl (hN.nw 6 rfl) (hts (.initialized RX0) (by decide +kernel)) (by decide +kernel) ⟨Nat.le_of_ble_eq_true rfl, Nat.le_of_ble_eq_true rfl⟩), hts (.instanceMethod yX0_hasRoom) (by decide +kernel), hts (.selects RX0 yX0_hasRoom yX0_hasRoom) (by decide +kernel)⟩ ⟨cPre.blind, va_recv hKc hPc (ci := 0) (q0 := 0) rfl rfl, cPre.mk hPc hKc hDc hN⟩ rfl rfl hl.1 rfl (lv_room (Nat.le_of_ble_eq_true rfl)) dX1_readRule_30 ⟨Nat.zero_le _, Nat.zero_le _⟩) hS hA (fun H locs hkp0 hS => ?_)
      replace hP := hkp0 _ hP
      refine lv_if_ne (tgt := 38) hx hb dX1_readRule_33 (by decide) (fun c_33_99 => ?_) (fun c_33_99 => ?_)
      · refine lv_aload_n hx hb dX1_readRule_38 rfl (lv_at hl 1 rfl) ?_
        refine va_get (D := D) (ci := 1) (v := .int tk) (C := RX1) (T := TX1) (N := 5) hx hb hts hinX1 hown hK hP 0 rfl rfl 3 (by decide) (hts (.fieldLink RX1 30 "HoldUnless$Text" "token" "I") (by decide +kernel)) (fun _ h9 => h9) rfl dX1_readRule_39 ?_
        refine lv_bipush (v := 10) hx hb dX1_readRule_42 (by decide) ?_
        refine lv_icmp_ne (tgt := 52) hx hb dX1_readRule_44 (by decide) (fun _ => ?_) (fun hh_101 => absurd hh_101 c_6_88)
        refine lv_aload_n hx hb dX1_readRule_52 rfl (lv_at hl 1 rfl) ?_
        refine va_get (D := D) (ci := 1) (v := .int tk) (C := RX1) (T := TX1) (N := 5) hx hb hts hinX1 hown hK hP 0 rfl rfl 3 (by decide) (hts (.fieldLink RX1 30 "HoldUnless$Text" "token" "I") (by decide +kernel)) (fun _ h9 => h9) rfl dX1_readRule_53 ?_
        refine lv_istore_n (lv' := [(3, .int tk), (2, .int 1), (0, .ref t0), (1, .ref a0)]) hx hb dX1_readRule_56 rfl hl (by decide) rfl (fun ls hl => ?_)
        exact cut57 tk (show s_X1_readRule by_ len q tk tp n hd fi un = j_X1_readRule_57 by_ len q n hd fi un tk from by (unfold s_X1_readRule; (try dsimp only); (try rw [if_neg c_6_88]); (try rw [if_neg c_16_94]); (try rw [if_neg c_33_99]); first | done | rfl))  _ _ hP hD hS _ (lv_sub hl [2, 3, 0] rfl)
      · refine lv_iconst (v := 0) hx hb dX1_readRule_36 (by decide) ?_
        exact rw_zret hx hb hr hS hlocks (q, tk, tp, n, hd, fi, un) ⟨(show s_X1_readRule by_ len q tk tp n hd fi un = (0, q, tk, tp, n, hd, fi, un) from by (unfold s_X1_readRule; (try dsimp only); (try rw [if_neg c_6_88]); (try rw [if_neg c_16_94]); (try rw [if_pos c_33_99]); first | done | rfl)).symm, (by first | assumption | omega | rfl), (by first | assumption | omega | rfl)⟩ hP hD (by decide +kernel) dX1_readRule_37

def f_X1_readInto_15 (by_ : Nat → Int32) (len : Nat) (j15 : Nat) (st : Nat × Int32 × Int32 × Nat × Int32 × (Nat → Int32) × (Nat → Int32) × (Nat → Int32)) : (Int32 × Nat × Int32 × Int32 × Nat × Int32 × (Nat → Int32) × (Nat → Int32) × (Nat → Int32)) ⊕ (Nat × Int32 × Int32 × Nat × Int32 × (Nat → Int32) × (Nat → Int32) × (Nat → Int32)) := match st with | (q5, tk5, tp5, n5, may5, hd5, fi5, un5) => (if tk5 = 13 then (.inl (nI j15, q5, tk5, tp5, n5, may5, hd5, fi5, un5)) else (if tk5 = 11 then (match s_X1_readMay by_ len q5 may5 with | (rv_40, plv_36, tkv_37, tpv_38, mayv_39) => (if rv_40 = 0 then (.inl ((-9), plv_36, tkv_37, tpv_38, n5, mayv_39, hd5, fi5, un5)) else (.inr (plv_36, tkv_37, tpv_38, n5, mayv_39, hd5, fi5, un5)))) else (match s_X1_readRule by_ len q5 tk5 tp5 n5 hd5 fi5 un5 with | (rv_29, plv_22, tkv_23, tpv_24, szv_25, hdv_26, fiv_27, unv_28) => (if rv_29 = 0 then (.inl ((-9), plv_22, tkv_23, tpv_24, szv_25, may5, hdv_26, fiv_27, unv_28)) else (.inr (plv_22, tkv_23, tpv_24, szv_25, may5, hdv_26, fiv_27, unv_28))))))
def s_X1_readInto (by_ : Nat → Int32) (len : Nat) (hd : Nat → Int32) (fi : Nat → Int32) (un : Nat → Int32) : Int32 × Nat × Int32 × Int32 × Nat × Int32 × (Nat → Int32) × (Nat → Int32) × (Nat → Int32) := (match s_X0_forgetAll  with | (szv_1, mayv_2) => (match s_X1_advance by_ len 0 with | (plv_6, tkv_7, tpv_8) => (onE (itE (f_X1_readInto_15 by_ len) (plv_6, tkv_7, tpv_8, szv_1, mayv_2, hd, fi, un) 300) (fun st => match st with | (q5, tk5, tp5, n5, may5, hd5, fi5, un5) => (if tk5 = 13 then (nI 300, q5, tk5, tp5, n5, may5, hd5, fi5, un5) else (nI 300, q5, tk5, tp5, n5, may5, hd5, fi5, un5))))))
set_option maxHeartbeats 4000000 in
set_option maxRecDepth 100000 in
theorem c_X1_readInto (l : Launch) (D : va_G) (t0 : Nat) (t1 : Nat) (ct : ClassId) (a0 : Nat) (a1 : Nat) (a2 : Nat) (a3 : Nat) (b1 : ClassId) (b2 : ClassId) (b3 : ClassId) (len : Nat) (q : Nat) (n : Nat) (by_ : Nat → Int32) (tk : Int32) (tp : Int32) (may : Int32) (hd : Nat → Int32) (fi : Nat → Int32) (un : Nat → Int32) (hq : q ≤ len) (hlen : len ≤ 300) (hn : n ≤ 10) (sz : Nat) : Met l yX1_readInto wsX1_readInto ({ frames := 5, cells := 0, slots := 0, locals := 111 }) (va_Pc [.ref t0, .ref a0] (cPre D (tTB t0 t1 ct a0 a1 a2 a3 b1 b2 b3) (wTB t0 t1 ct a0 a1 a2 a3 b1 b2 b3 by_ (nI len) (nI q) tk tp (nI n) may hd fi un) sz)) (va_Qi (fun (r : Int32) (u : Nat × Int32 × Int32 × Nat × Int32 × (Nat → Int32) × (Nat → Int32) × (Nat → Int32)) => (r, u.1, u.2.1, u.2.2.1, u.2.2.2.1, u.2.2.2.2.1, u.2.2.2.2.2.1, u.2.2.2.2.2.2.1, u.2.2.2.2.2.2.2) = s_X1_readInto by_ len hd fi un ∧ (u.1 ≤ len) ∧ (u.2.2.2.1 ≤ 10)) (rwB D (fun u : Nat × Int32 × Int32 × Nat × Int32 × (Nat → Int32) × (Nat → Int32) × (Nat → Int32) => (wTB t0 t1 ct a0 a1 a2 a3 b1 b2 b3 by_ (nI len) (nI u.1) u.2.1 u.2.2.1 (nI u.2.2.2.1) u.2.2.2.2.1 u.2.2.2.2.2.1 u.2.2.2.2.2.2.1 u.2.2.2.2.2.2.2)) (va_A (wTB t0 t1 ct a0 a1 a2 a3 b1 b2 b3 by_ (nI len) (nI q) tk tp (nI n) may hd fi un) sz)) (va_A (wTB t0 t1 ct a0 a1 a2 a3 b1 b2 b3 by_ (nI len) (nI q) tk tp (nI n) may hd fi un) sz)) 0 0 (va_A (wTB t0 t1 ct a0 a1 a2 a3 b1 b2 b3 by_ (nI len) (nI q) tk tp (nI n) may hd fi un) sz) := by
  refine Met.ofW (cc := cX1_readInto) (maxL := 4) (ret := (some .int)) (by decide) rfl ?_
  intro p e s m args below meth c s₁ B hml hv
  obtain ⟨rfl, hsz, hP, hK, hD, hN⟩ := hv
  have hx := B.exec
  have hb := B.bytes
  have hr := B.returns
  have hts := atoms_spec (ws := wsX1_readInto) B.pre
  have hown : s.vm.findClass RX1 = some m.cls := findClass_of_methodNamed B.named
  have hlocks := B.notSynchronized
  have hinX1 : ∀ w ∈ wsX10, w ∈ wsX1_readInto := fun w h => List.mem_cons_of_mem _ (List.mem_append_left _ (List.mem_append_right _ h))
  subst hsz
  replace hD := hD.self (sz := s.heap.size)
  generalize hAe : va_A (wTB t0 t1 ct a0 a1 a2 a3 b1 b2 b3 by_ (nI len) (nI q) tk tp (nI n) may hd fi un) s.heap.size = A at hD ⊢
  have hA : ∀ q : Nat, s.heap.size ≤ q → A q := fun q h => by rw [← hAe]; exact Or.inr h
  have hS : va_S A s.heap s.heap [] := va_S.rf
  have hl := lv_entry ([.ref t0, .ref a0]) (n := 4) (Nat.le_of_ble_eq_true rfl)
  rw [lg_entry_eq]
  generalize (lg_sl ([.ref t0, .ref a0]) ++ List.replicate (4 - (lg_sl ([.ref t0, .ref a0])).length) Slot.unset).toArray = ls at hl ⊢
  replace hl : lv_has ls 4 [(0, .ref t0), (1, .ref a0)] := hl
  have hKe := hK.sub (tys' := []) [] rfl
  refine lv_aload_n hx hb dX1_readInto_0 rfl (lv_at hl 1 rfl) ?_
  have hPc := hP.sub (ws' := (wB a0 a1 a2 a3 b1 b2 b3 (nI n) may hd fi un)) [2, 3, 4, 5] rfl
  have hDc := hD.sub (ws' := (wB a0 a1 a2 a3 b1 b2 b3 (nI n) may hd fi un)) [2, 3, 4, 5] (by decide) rfl
  have hKc := hK.sub (tys' := (tB a0 a1 a2 a3 b1 b2 b3)) [1, 2, 3] rfl
  have hFc := va_free (wc := (wB a0 a1 a2 a3 b1 b2 b3 (nI n) may hd fi un)) hD hS hA [2, 3, 4, 5] rfl
  refine rw_v (D := D) (wc := (wB a0 a1 a2 a3 b1 b2 b3 (nI n) may hd fi un)) (va_runVN (As := []) (rest := []) ⟨hx, hb, hml, hown, hts⟩ (c_X0_forgetAll l D a0 a1 a2 a3 b1 b2 b3 n may hd fi un  _) ⟨(va_cnB 0 hts gX1_readInto_X0_forgetAll_n19 rfl rfl rfl (hN.nw 4 rfl) (hts (.initialized RX0) (by decide +kernel)) (by decide +kernel) ⟨Nat.le_of_ble_eq_true rfl, Nat.le_of_ble_eq_true rfl⟩), hts (.instanceMethod yX0_forgetAll) (by decide +kernel), hts (.selects RX0 yX0_forgetAll yX0_forgetAll) (by decide +kernel)⟩ ⟨cPre.blind, va_recv hKc hPc (ci := 0) (q0 := 0) rfl rfl, cPre.mk hPc hKc hDc hN⟩ rfl rfl hl.1 rfl (lv_room (Nat.le_of_ble_eq_true rfl)) dX1_readInto_1 ⟨Nat.zero_le _, Nat.zero_le _⟩) hS hFc (fun u H1 locs hw_4 hP1 hD1 hk1 hS => ?_)
  obtain ⟨szv_1, mayv_2⟩ := u
  try dsimp only at hw_4
  obtain ⟨hw_4, hpx_5⟩ := hw_4
  obtain ⟨hP2, hD2⟩ := va_join (wr := [(t0, .inr (1, [.ref t1, .int (nI len), .int (nI q), .int tk, .int tp])), (t1, .inl (ct, 300, .inl by_))]) (w1 := (wB a0 a1 a2 a3 b1 b2 b3 (nI szv_1) mayv_2 hd fi un)) hP hD [2, 3, 4, 5] [0, 1] rfl rfl (by decide) (by decide) hk1 hFc hP1 hD1
  have hP := hP2.sub (ws' := (wTB t0 t1 ct a0 a1 a2 a3 b1 b2 b3 by_ (nI len) (nI q) tk tp (nI szv_1) mayv_2 hd fi un)) [0, 1, 2, 3, 4, 5] rfl
  have hD := hD2.sub (ws' := (wTB t0 t1 ct a0 a1 a2 a3 b1 b2 b3 by_ (nI len) (nI q) tk tp (nI szv_1) mayv_2 hd fi un)) [0, 1, 2, 3, 4, 5] (by decide) rfl
  clear hP1 hD1 hFc hk1
  generalize H1 = H at hP hS ⊢
  refine lv_aload_n hx hb dX1_readInto_4 rfl (lv_at hl 0 rfl) ?_
  refine lv_iconst (v := 0) hx hb dX1_readInto_5 (by decide) ?_
  refine va_put (D := D) (ci := 1) (v := .int 0) (ty := .int) (C := RX1) (T := TX1) (N := 5) hx hb hts hinX1 tyX1 tyX1_ok nmX1 hown hK hP hD hS 0 rfl rfl 2 (by decide) (hts (.fieldLink RX1 24 "HoldUnless$Text" "place" "I") (by decide +kernel)) (fun _ h9 => h9) rfl (by decide +kernel) rfl rfl (Nat.le_of_ble_eq_true rfl) dX1_readInto_6 (fun H locs hP hD hS => ?_)
  replace hP : va_P D vwCl (wTB t0 t1 ct a0 a1 a2 a3 b1 b2 b3 by_ (nI len) 0 tk tp (nI szv_1) mayv_2 hd fi un) H := hP
  replace hD : va_D A (wTB t0 t1 ct a0 a1 a2 a3 b1 b2 b3 by_ (nI len) 0 tk tp (nI szv_1) mayv_2 hd fi un) := hD
  refine lv_aload_n hx hb dX1_readInto_9 rfl (lv_at hl 0 rfl) ?_
  have hPc := hP.sub (ws' := (wT t0 t1 ct by_ (nI len) 0 tk tp)) [0, 1] rfl
  have hDc := hD.sub (ws' := (wT t0 t1 ct by_ (nI len) 0 tk tp)) [0, 1] (by decide) rfl
  have hKc := hK.sub (tys' := (tT t0 t1 ct)) [0] rfl
  have hFc := va_free (wc := (wT t0 t1 ct by_ (nI len) 0 tk tp)) hD hS hA [0, 1] rfl
  refine rw_v (D := D) (wc := (wT t0 t1 ct by_ (nI len) 0 tk tp)) (va_runV (As := []) (rest := []) ⟨hx, hb, hml, hown, hts⟩ (c_X1_advance l D t0 t1 ct len 0 by_ tk tp (by first | assumption | omega) (by first | assumption | omega) _) (cwV 0 hts gX1_readInto_X1_advance rfl rfl rfl (by decide +kernel) ⟨Nat.le_of_ble_eq_true rfl, Nat.le_of_ble_eq_true rfl⟩) ⟨cPre.blind, va_recv hKc hPc (ci := 1) (q0 := 0) rfl rfl, cPre.mk hPc hKc hDc hN⟩ rfl rfl hl.1 rfl (lv_room (Nat.le_of_ble_eq_true rfl)) dX1_readInto_10 ⟨Nat.zero_le _, Nat.zero_le _⟩) hS hFc (fun u H1 locs hw_10 hP1 hD1 hk1 hS => ?_)
  obtain ⟨plv_6, tkv_7, tpv_8⟩ := u
  try dsimp only at hw_10
  obtain ⟨hw_10, hpx_11⟩ := hw_10
  obtain ⟨hP2, hD2⟩ := va_join (wr := [(a0, .inr (0, [.int (nI szv_1), .int mayv_2, .ref a1, .ref a2, .ref a3])), (a1, .inl (b1, 10, .inl hd)), (a2, .inl (b2, 10, .inl fi)), (a3, .inl (b3, 10, .inl un))]) (w1 := (wT t0 t1 ct by_ (nI len) (nI plv_6) tkv_7 tpv_8)) hP hD [0, 1] [2, 3, 4, 5] rfl rfl (by decide) (by decide) hk1 hFc hP1 hD1
  have hP := hP2.sub (ws' := (wTB t0 t1 ct a0 a1 a2 a3 b1 b2 b3 by_ (nI len) (nI plv_6) tkv_7 tpv_8 (nI szv_1) mayv_2 hd fi un)) [4, 5, 0, 1, 2, 3] rfl
  have hD := hD2.sub (ws' := (wTB t0 t1 ct a0 a1 a2 a3 b1 b2 b3 by_ (nI len) (nI plv_6) tkv_7 tpv_8 (nI szv_1) mayv_2 hd fi un)) [4, 5, 0, 1, 2, 3] (by decide) rfl
  clear hP1 hD1 hFc hk1
  generalize H1 = H at hP hS ⊢
  refine lv_iconst (v := 0) hx hb dX1_readInto_13 (by decide) ?_
  refine lv_istore_n (lv' := [(2, .int 0), (0, .ref t0), (1, .ref a0)]) hx hb dX1_readInto_14 rfl hl (by decide) rfl (fun ls hl => ?_)
  have lp15_12 : ∀ (z_12 j15 : Nat), j15 + z_12 = 300 → ∀ (q5 : Nat) (tk5 : Int32) (tp5 : Int32) (n5 : Nat) (may5 : Int32) (hd5 : Nat → Int32) (fi5 : Nat → Int32) (un5 : Nat → Int32), itE (f_X1_readInto_15 by_ len) (plv_6, tkv_7, tpv_8, szv_1, mayv_2, hd, fi, un) j15 = .inr (q5, tk5, tp5, n5, may5, hd5, fi5, un5) → (q5 ≤ len) → (n5 ≤ 10) → ∀  (H : Heap) (locs : List Loc), va_P D vwCl (wTB t0 t1 ct a0 a1 a2 a3 b1 b2 b3 by_ (nI len) (nI q5) tk5 tp5 (nI n5) may5 hd5 fi5 un5) H → va_D A (wTB t0 t1 ct a0 a1 a2 a3 b1 b2 b3 by_ (nI len) (nI q5) tk5 tp5 (nI n5) may5 hd5 fi5 un5) → va_S A s.heap H locs → ∀ ls : Array Slot, lv_has ls 4 [(0, .ref t0), (1, .ref a0), (2, .int (nI j15))] → W p l e (headSpec wsX1_readInto ({ frames := 5, cells := 0, slots := 0, locals := 111 })).room s m ([.ref t0, .ref a0] : List Value).toArray below meth c H locs 0 0 (MQ below (va_Qi (fun (r : Int32) (u : Nat × Int32 × Int32 × Nat × Int32 × (Nat → Int32) × (Nat → Int32) × (Nat → Int32)) => (r, u.1, u.2.1, u.2.2.1, u.2.2.2.1, u.2.2.2.2.1, u.2.2.2.2.2.1, u.2.2.2.2.2.2.1, u.2.2.2.2.2.2.2) = s_X1_readInto by_ len hd fi un ∧ (u.1 ≤ len) ∧ (u.2.2.2.1 ≤ 10)) (rwB D (fun u : Nat × Int32 × Int32 × Nat × Int32 × (Nat → Int32) × (Nat → Int32) × (Nat → Int32) => (wTB t0 t1 ct a0 a1 a2 a3 b1 b2 b3 by_ (nI len) (nI u.1) u.2.1 u.2.2.1 (nI u.2.2.2.1) u.2.2.2.2.1 u.2.2.2.2.2.1 u.2.2.2.2.2.2.1 u.2.2.2.2.2.2.2)) A) A) ([.ref t0, .ref a0] : List Value).toArray s 0 0 A) (F0 m 15 ls []) := by
    intro z_12
    induction z_12 with
    | zero =>
      intro j15 hj15 q5 tk5 tp5 n5 may5 hd5 fi5 un5 he15 hq5 hn5  H locs hP hD hS ls hl
      obtain rfl : 300 = j15 := by omega
      refine lv_aload_n hx hb dX1_readInto_15 rfl (lv_at hl 0 rfl) ?_
      refine va_get (D := D) (ci := 1) (v := .int tk5) (C := RX1) (T := TX1) (N := 5) hx hb hts hinX1 hown hK hP 0 rfl rfl 3 (by decide) (hts (.fieldLink RX1 30 "HoldUnless$Text" "token" "I") (by decide +kernel)) (fun _ h9 => h9) rfl dX1_readInto_16 ?_
      refine lv_bipush (v := 13) hx hb dX1_readInto_19 (by decide) ?_
      refine lv_icmp_eq (tgt := 67) hx hb dX1_readInto_21 (by decide) (fun c_21_13 => ?_) (fun c_21_13 => ?_)
      · refine lv_iload_n hx hb dX1_readInto_67 rfl (lv_at hl 2 rfl) ?_
        exact rw_iret hx hb hr hS hlocks (q5, tk5, tp5, n5, may5, hd5, fi5, un5) ⟨(show s_X1_readInto by_ len hd fi un = (nI 300, q5, tk5, tp5, n5, may5, hd5, fi5, un5) from by (unfold s_X1_readInto; (try dsimp only); (try rw [← hw_4]); (try dsimp only); (try rw [← hw_10]); (try dsimp only); (try rw [he15]); (try dsimp only [onE]); (try rw [if_pos c_21_13]); first | done | rfl)).symm, (by first | assumption | omega | rfl), (by first | assumption | omega | rfl)⟩ hP hD dX1_readInto_68
      · refine lv_iload_n hx hb dX1_readInto_24 rfl (lv_at hl 2 rfl) ?_
        refine lv_sipush (v := 300) hx hb dX1_readInto_25 (by decide) ?_
        refine lv_icmp_ge (tgt := 67) hx hb dX1_readInto_28 (by decide) (fun _ => ?_) (fun hh_15 => absurd (nI_le (a := 300) (b := 300) (by omega) (by omega)) hh_15)
        refine lv_iload_n hx hb dX1_readInto_67 rfl (lv_at hl 2 rfl) ?_
        exact rw_iret hx hb hr hS hlocks (q5, tk5, tp5, n5, may5, hd5, fi5, un5) ⟨(show s_X1_readInto by_ len hd fi un = (nI 300, q5, tk5, tp5, n5, may5, hd5, fi5, un5) from by (unfold s_X1_readInto; (try dsimp only); (try rw [← hw_4]); (try dsimp only); (try rw [← hw_10]); (try dsimp only); (try rw [he15]); (try dsimp only [onE]); (try rw [if_neg c_21_13]); first | done | rfl)).symm, (by first | assumption | omega | rfl), (by first | assumption | omega | rfl)⟩ hP hD dX1_readInto_68
    | succ z_12 ih15 =>
      intro j15 hj15 q5 tk5 tp5 n5 may5 hd5 fi5 un5 he15 hq5 hn5  H locs hP hD hS ls hl
      refine lv_aload_n hx hb dX1_readInto_15 rfl (lv_at hl 0 rfl) ?_
      refine va_get (D := D) (ci := 1) (v := .int tk5) (C := RX1) (T := TX1) (N := 5) hx hb hts hinX1 hown hK hP 0 rfl rfl 3 (by decide) (hts (.fieldLink RX1 30 "HoldUnless$Text" "token" "I") (by decide +kernel)) (fun _ h9 => h9) rfl dX1_readInto_16 ?_
      refine lv_bipush (v := 13) hx hb dX1_readInto_19 (by decide) ?_
      refine lv_icmp_eq (tgt := 67) hx hb dX1_readInto_21 (by decide) (fun c_21_16 => ?_) (fun c_21_16 => ?_)
      · refine lv_iload_n hx hb dX1_readInto_67 rfl (lv_at hl 2 rfl) ?_
        have hs_17 : itE (f_X1_readInto_15 by_ len) (plv_6, tkv_7, tpv_8, szv_1, mayv_2, hd, fi, un) (j15 + 1) = (.inl (nI j15, q5, tk5, tp5, n5, may5, hd5, fi5, un5)) := itE_succ he15 (by (unfold f_X1_readInto_15; (try dsimp only); (try rw [if_pos c_21_16]); first | done | rfl))
        have hn_18 := itE_stop hs_17 300 (by omega)
        exact rw_iret hx hb hr hS hlocks (q5, tk5, tp5, n5, may5, hd5, fi5, un5) ⟨(show s_X1_readInto by_ len hd fi un = (nI j15, q5, tk5, tp5, n5, may5, hd5, fi5, un5) from by (unfold s_X1_readInto; (try dsimp only); (try rw [← hw_4]); (try dsimp only); (try rw [← hw_10]); (try dsimp only); (try rw [hn_18]); (try dsimp only [onE]); first | done | rfl)).symm, (by first | assumption | omega | rfl), (by first | assumption | omega | rfl)⟩ hP hD dX1_readInto_68
      · refine lv_iload_n hx hb dX1_readInto_24 rfl (lv_at hl 2 rfl) ?_
        refine lv_sipush (v := 300) hx hb dX1_readInto_25 (by decide) ?_
        refine lv_icmp_ge (tgt := 67) hx hb dX1_readInto_28 (by decide) (fun hh_20 => absurd hh_20 (nI_ge (a := j15) (b := 300) (by omega) (by omega))) (fun _ => ?_)
        refine lv_aload_n hx hb dX1_readInto_31 rfl (lv_at hl 0 rfl) ?_
        refine va_get (D := D) (ci := 1) (v := .int tk5) (C := RX1) (T := TX1) (N := 5) hx hb hts hinX1 hown hK hP 0 rfl rfl 3 (by decide) (hts (.fieldLink RX1 30 "HoldUnless$Text" "token" "I") (by decide +kernel)) (fun _ h9 => h9) rfl dX1_readInto_32 ?_
        refine lv_bipush (v := 11) hx hb dX1_readInto_35 (by decide) ?_
        refine lv_icmp_ne (tgt := 48) hx hb dX1_readInto_37 (by decide) (fun c_37_21 => ?_) (fun c_37_21 => ?_)
        · refine lv_aload_n hx hb dX1_readInto_48 rfl (lv_at hl 0 rfl) ?_
          refine lv_aload_n hx hb dX1_readInto_49 rfl (lv_at hl 1 rfl) ?_
          have hFc := va_free (wc := (wTB t0 t1 ct a0 a1 a2 a3 b1 b2 b3 by_ (nI len) (nI q5) tk5 tp5 (nI n5) may5 hd5 fi5 un5)) hD hS hA [0, 1, 2, 3, 4, 5] rfl
          refine rw_i (D := D) (wc := (wTB t0 t1 ct a0 a1 a2 a3 b1 b2 b3 by_ (nI len) (nI q5) tk5 tp5 (nI n5) may5 hd5 fi5 un5)) (va_runV (As := [.ref a0]) (rest := []) ⟨hx, hb, hml, hown, hts⟩ (c_X1_readRule l D t0 t1 ct a0 a1 a2 a3 b1 b2 b3 len q5 n5 by_ tk5 tp5 may5 hd5 fi5 un5 (by first | assumption | omega) (by first | assumption | omega) (by first | assumption | omega) _) (cwV 1 hts gX1_readInto_X1_readRule rfl rfl rfl (by decide +kernel) ⟨Nat.le_of_ble_eq_true rfl, Nat.le_of_ble_eq_true rfl⟩) ⟨cPre.blind, va_recv hK hP (ci := 1) (q0 := 0) rfl rfl, cPre.mk hP hK hD hN⟩ rfl rfl hl.1 rfl (lv_room (Nat.le_of_ble_eq_true rfl)) dX1_readInto_50 ⟨Nat.zero_le _, Nat.zero_le _⟩) hS hFc (fun rv_29 u H1 locs hw_30 hP1 hD1 hk1 hS => ?_)
          obtain ⟨plv_22, tkv_23, tpv_24, szv_25, hdv_26, fiv_27, unv_28⟩ := u
          try dsimp only at hw_30
          obtain ⟨hw_30, hpx_31, hpx_32⟩ := hw_30
          have hP : va_P D vwCl (wTB t0 t1 ct a0 a1 a2 a3 b1 b2 b3 by_ (nI len) (nI plv_22) tkv_23 tpv_24 (nI szv_25) may5 hdv_26 fiv_27 unv_28) H1 := hP1
          have hD : va_D A (wTB t0 t1 ct a0 a1 a2 a3 b1 b2 b3 by_ (nI len) (nI plv_22) tkv_23 tpv_24 (nI szv_25) may5 hdv_26 fiv_27 unv_28) := hD1.weaken (fun k q hk h => hFc _ h)
          clear hP1 hD1 hFc hk1
          generalize H1 = H at hP hS ⊢
          refine lv_istore_n (lv' := [(3, .int rv_29), (0, .ref t0), (1, .ref a0), (2, .int (nI j15))]) hx hb dX1_readInto_53 rfl hl (by decide) rfl (fun ls hl => ?_)
          refine lv_iload_n hx hb dX1_readInto_54 rfl (lv_at hl 0 rfl) ?_
          refine lv_if_ne (tgt := 61) hx hb dX1_readInto_55 (by decide) (fun c_55_33 => ?_) (fun c_55_33 => ?_)
          · refine lv_iinc (v := nI (j15 + 1)) (lv' := [(2, .int (nI (j15 + 1))), (3, .int rv_29), (0, .ref t0), (1, .ref a0)]) hx hb dX1_readInto_61 hl (k := 3) rfl (inc_nI j15) (by decide) rfl (fun ls hl => ?_)
            refine lv_goto (tgt := 15) hx hb dX1_readInto_64 (by decide) ?_
            exact ih15 (j15 + 1) (by omega) plv_22 tkv_23 tpv_24 szv_25 may5 hdv_26 fiv_27 unv_28 (itE_succ he15 (by (unfold f_X1_readInto_15; (try dsimp only); (try rw [if_neg c_21_16]); (try rw [if_neg c_37_21]); (try rw [← hw_30]); (try dsimp only); (try rw [if_neg c_55_33]); first | done | rfl))) (by first | assumption | omega) (by first | assumption | omega)  _ _ hP hD hS _ (lv_sub hl [2, 3, 0] rfl)
          · refine lv_bipush (v := (-9)) hx hb dX1_readInto_58 (by decide) ?_
            have hs_34 : itE (f_X1_readInto_15 by_ len) (plv_6, tkv_7, tpv_8, szv_1, mayv_2, hd, fi, un) (j15 + 1) = (.inl ((-9), plv_22, tkv_23, tpv_24, szv_25, may5, hdv_26, fiv_27, unv_28)) := itE_succ he15 (by (unfold f_X1_readInto_15; (try dsimp only); (try rw [if_neg c_21_16]); (try rw [if_neg c_37_21]); (try rw [← hw_30]); (try dsimp only); (try rw [if_pos c_55_33]); first | done | rfl))
            have hn_35 := itE_stop hs_34 300 (by omega)
            exact rw_iret hx hb hr hS hlocks (plv_22, tkv_23, tpv_24, szv_25, may5, hdv_26, fiv_27, unv_28) ⟨(show s_X1_readInto by_ len hd fi un = ((-9), plv_22, tkv_23, tpv_24, szv_25, may5, hdv_26, fiv_27, unv_28) from by (unfold s_X1_readInto; (try dsimp only); (try rw [← hw_4]); (try dsimp only); (try rw [← hw_10]); (try dsimp only); (try rw [hn_35]); (try dsimp only [onE]); first | done | rfl)).symm, (by first | assumption | omega | rfl), (by first | assumption | omega | rfl)⟩ hP hD dX1_readInto_60
        · refine lv_aload_n hx hb dX1_readInto_40 rfl (lv_at hl 0 rfl) ?_
          refine lv_aload_n hx hb dX1_readInto_41 rfl (lv_at hl 1 rfl) ?_
          have hFc := va_free (wc := (wTB t0 t1 ct a0 a1 a2 a3 b1 b2 b3 by_ (nI len) (nI q5) tk5 tp5 (nI n5) may5 hd5 fi5 un5)) hD hS hA [0, 1, 2, 3, 4, 5] rfl
          refine rw_i (D := D) (wc := (wTB t0 t1 ct a0 a1 a2 a3 b1 b2 b3 by_ (nI len) (nI q5) tk5 tp5 (nI n5) may5 hd5 fi5 un5)) (va_runV (As := [.ref a0]) (rest := []) ⟨hx, hb, hml, hown, hts⟩ (c_X1_readMay l D t0 t1 ct a0 a1 a2 a3 b1 b2 b3 len q5 n5 by_ tk5 tp5 may5 hd5 fi5 un5 (by first | assumption | omega) (by first | assumption | omega) (by first | assumption | omega) _) (cwV 1 hts gX1_readInto_X1_readMay rfl rfl rfl (by decide +kernel) ⟨Nat.le_of_ble_eq_true rfl, Nat.le_of_ble_eq_true rfl⟩) ⟨cPre.blind, va_recv hK hP (ci := 1) (q0 := 0) rfl rfl, cPre.mk hP hK hD hN⟩ rfl rfl hl.1 rfl (lv_room (Nat.le_of_ble_eq_true rfl)) dX1_readInto_42 ⟨Nat.zero_le _, Nat.zero_le _⟩) hS hFc (fun rv_40 u H1 locs hw_41 hP1 hD1 hk1 hS => ?_)
          obtain ⟨plv_36, tkv_37, tpv_38, mayv_39⟩ := u
          try dsimp only at hw_41
          obtain ⟨hw_41, hpx_42⟩ := hw_41
          have hP : va_P D vwCl (wTB t0 t1 ct a0 a1 a2 a3 b1 b2 b3 by_ (nI len) (nI plv_36) tkv_37 tpv_38 (nI n5) mayv_39 hd5 fi5 un5) H1 := hP1
          have hD : va_D A (wTB t0 t1 ct a0 a1 a2 a3 b1 b2 b3 by_ (nI len) (nI plv_36) tkv_37 tpv_38 (nI n5) mayv_39 hd5 fi5 un5) := hD1.weaken (fun k q hk h => hFc _ h)
          clear hP1 hD1 hFc hk1
          generalize H1 = H at hP hS ⊢
          refine lv_goto (tgt := 53) hx hb dX1_readInto_45 (by decide) ?_
          refine lv_istore_n (lv' := [(3, .int rv_40), (0, .ref t0), (1, .ref a0), (2, .int (nI j15))]) hx hb dX1_readInto_53 rfl hl (by decide) rfl (fun ls hl => ?_)
          refine lv_iload_n hx hb dX1_readInto_54 rfl (lv_at hl 0 rfl) ?_
          refine lv_if_ne (tgt := 61) hx hb dX1_readInto_55 (by decide) (fun c_55_43 => ?_) (fun c_55_43 => ?_)
          · refine lv_iinc (v := nI (j15 + 1)) (lv' := [(2, .int (nI (j15 + 1))), (3, .int rv_40), (0, .ref t0), (1, .ref a0)]) hx hb dX1_readInto_61 hl (k := 3) rfl (inc_nI j15) (by decide) rfl (fun ls hl => ?_)
            refine lv_goto (tgt := 15) hx hb dX1_readInto_64 (by decide) ?_
            exact ih15 (j15 + 1) (by omega) plv_36 tkv_37 tpv_38 n5 mayv_39 hd5 fi5 un5 (itE_succ he15 (by (unfold f_X1_readInto_15; (try dsimp only); (try rw [if_neg c_21_16]); (try rw [if_pos c_37_21]); (try rw [← hw_41]); (try dsimp only); (try rw [if_neg c_55_43]); first | done | rfl))) (by first | assumption | omega) (by first | assumption | omega)  _ _ hP hD hS _ (lv_sub hl [2, 3, 0] rfl)
          · refine lv_bipush (v := (-9)) hx hb dX1_readInto_58 (by decide) ?_
            have hs_44 : itE (f_X1_readInto_15 by_ len) (plv_6, tkv_7, tpv_8, szv_1, mayv_2, hd, fi, un) (j15 + 1) = (.inl ((-9), plv_36, tkv_37, tpv_38, n5, mayv_39, hd5, fi5, un5)) := itE_succ he15 (by (unfold f_X1_readInto_15; (try dsimp only); (try rw [if_neg c_21_16]); (try rw [if_pos c_37_21]); (try rw [← hw_41]); (try dsimp only); (try rw [if_pos c_55_43]); first | done | rfl))
            have hn_45 := itE_stop hs_44 300 (by omega)
            exact rw_iret hx hb hr hS hlocks (plv_36, tkv_37, tpv_38, n5, mayv_39, hd5, fi5, un5) ⟨(show s_X1_readInto by_ len hd fi un = ((-9), plv_36, tkv_37, tpv_38, n5, mayv_39, hd5, fi5, un5) from by (unfold s_X1_readInto; (try dsimp only); (try rw [← hw_4]); (try dsimp only); (try rw [← hw_10]); (try dsimp only); (try rw [hn_45]); (try dsimp only [onE]); first | done | rfl)).symm, (by first | assumption | omega | rfl), (by first | assumption | omega | rfl)⟩ hP hD dX1_readInto_60
  exact lp15_12 300 0 (by omega) plv_6 tkv_7 tpv_8 szv_1 mayv_2 hd fi un (itE_zero _ _) (by first | assumption | omega) (by first | assumption | omega)  _ _ hP hD hS _ (lv_sub hl [1, 2, 0] rfl)
end
section
set_option maxRecDepth 20000 in
theorem ggX2_init_X1_init : GoodIn wsX2_init wsX1_init := goodIn_r _ [17, 18, 2, 3, 19, 20, 27, 28, 29, 30, 31] (by decide +kernel) (by decide +kernel)
set_option maxRecDepth 20000 in
theorem gX2_init_X1_init_n9 : GoodIn wsX2_init (wsX1_init) := ggX2_init_X1_init
set_option maxRecDepth 20000 in
theorem ggX2_init_X0_init : GoodIn wsX2_init wsX0_init := goodIn_r _ [22, 23, 2, 3, 13, 24, 25, 26, 41, 42, 43, 44, 45] (by decide +kernel) (by decide +kernel)
set_option maxRecDepth 20000 in
theorem gX2_init_X0_init_n18 : GoodIn wsX2_init (wsX0_init) := ggX2_init_X0_init
theorem dX2_init_0 : decode cX2_init 0 = .ok (.aload_n 0, 1) := by decide +kernel
theorem dX2_init_1 : decode cX2_init 1 = .ok (.invokespecial 1, 3) := by decide +kernel
theorem dX2_init_4 : decode cX2_init 4 = .ok (.aload_n 0, 1) := by decide +kernel
theorem dX2_init_5 : decode cX2_init 5 = .ok (.new 7, 3) := by decide +kernel
theorem dX2_init_8 : decode cX2_init 8 = .ok (.dup, 1) := by decide +kernel
theorem dX2_init_9 : decode cX2_init 9 = .ok (.invokespecial 9, 3) := by decide +kernel
theorem dX2_init_12 : decode cX2_init 12 = .ok (.putfield 10, 3) := by decide +kernel
theorem dX2_init_15 : decode cX2_init 15 = .ok (.aload_n 0, 1) := by decide +kernel
theorem dX2_init_16 : decode cX2_init 16 = .ok (.new 16, 3) := by decide +kernel
theorem dX2_init_19 : decode cX2_init 19 = .ok (.dup, 1) := by decide +kernel
theorem dX2_init_20 : decode cX2_init 20 = .ok (.invokespecial 18, 3) := by decide +kernel
theorem dX2_init_23 : decode cX2_init 23 = .ok (.putfield 19, 3) := by decide +kernel
theorem dX2_init_26 : decode cX2_init 26 = .ok (.aload_n 0, 1) := by decide +kernel
theorem dX2_init_27 : decode cX2_init 27 = .ok (.new 16, 3) := by decide +kernel
theorem dX2_init_30 : decode cX2_init 30 = .ok (.dup, 1) := by decide +kernel
theorem dX2_init_31 : decode cX2_init 31 = .ok (.invokespecial 18, 3) := by decide +kernel
theorem dX2_init_34 : decode cX2_init 34 = .ok (.putfield 23, 3) := by decide +kernel
theorem dX2_init_37 : decode cX2_init 37 = .ok (.aload_n 0, 1) := by decide +kernel
theorem dX2_init_38 : decode cX2_init 38 = .ok (.iconst 2, 1) := by decide +kernel
theorem dX2_init_39 : decode cX2_init 39 = .ok (.newarray .int, 2) := by decide +kernel
theorem dX2_init_41 : decode cX2_init 41 = .ok (.putfield 26, 3) := by decide +kernel
theorem dX2_init_44 : decode cX2_init 44 = .ok (.aload_n 0, 1) := by decide +kernel
theorem dX2_init_45 : decode cX2_init 45 = .ok (.iconst 2, 1) := by decide +kernel
theorem dX2_init_46 : decode cX2_init 46 = .ok (.newarray .int, 2) := by decide +kernel
theorem dX2_init_48 : decode cX2_init 48 = .ok (.putfield 30, 3) := by decide +kernel
theorem dX2_init_51 : decode cX2_init 51 = .ok (.return_, 1) := by decide +kernel
set_option maxRecDepth 20000 in
theorem ggX2_type_X1_append : GoodIn wsX2_type wsX1_append := goodIn_r _ [5, 6, 7, 17, 18, 19, 20, 21] (by decide +kernel) (by decide +kernel)
set_option maxRecDepth 20000 in
theorem gX2_type_X1_append_n37 : GoodIn wsX2_type (wsX1_append) := ggX2_type_X1_append
theorem dX2_type_0 : decode cX2_type 0 = .ok (.iload_n 3, 1) := by decide +kernel
theorem dX2_type_1 : decode cX2_type 1 = .ok (.iconst 1, 1) := by decide +kernel
theorem dX2_type_2 : decode cX2_type 2 = .ok (.if_icmp .lt 9, 3) := by decide +kernel
theorem dX2_type_5 : decode cX2_type 5 = .ok (.iload_n 3, 1) := by decide +kernel
theorem dX2_type_6 : decode cX2_type 6 = .ok (.bipush 8, 2) := by decide +kernel
theorem dX2_type_8 : decode cX2_type 8 = .ok (.if_icmp .le 5, 3) := by decide +kernel
theorem dX2_type_11 : decode cX2_type 11 = .ok (.iconst (-1), 1) := by decide +kernel
theorem dX2_type_12 : decode cX2_type 12 = .ok (.ireturn, 1) := by decide +kernel
theorem dX2_type_13 : decode cX2_type 13 = .ok (.aload_n 0, 1) := by decide +kernel
theorem dX2_type_14 : decode cX2_type 14 = .ok (.getfield 10, 3) := by decide +kernel
theorem dX2_type_17 : decode cX2_type 17 = .ok (.getfield 33, 3) := by decide +kernel
theorem dX2_type_20 : decode cX2_type 20 = .ok (.iload_n 3, 1) := by decide +kernel
theorem dX2_type_21 : decode cX2_type 21 = .ok (.iadd, 1) := by decide +kernel
theorem dX2_type_22 : decode cX2_type 22 = .ok (.sipush 300, 3) := by decide +kernel
theorem dX2_type_25 : decode cX2_type 25 = .ok (.if_icmp .le 6, 3) := by decide +kernel
theorem dX2_type_28 : decode cX2_type 28 = .ok (.bipush (-3), 2) := by decide +kernel
theorem dX2_type_30 : decode cX2_type 30 = .ok (.ireturn, 1) := by decide +kernel
theorem dX2_type_31 : decode cX2_type 31 = .ok (.bipush 8, 2) := by decide +kernel
theorem dX2_type_33 : decode cX2_type 33 = .ok (.iload_n 3, 1) := by decide +kernel
theorem dX2_type_34 : decode cX2_type 34 = .ok (.iconst 1, 1) := by decide +kernel
theorem dX2_type_35 : decode cX2_type 35 = .ok (.isub, 1) := by decide +kernel
theorem dX2_type_36 : decode cX2_type 36 = .ok (.imul, 1) := by decide +kernel
theorem dX2_type_37 : decode cX2_type 37 = .ok (.istore 4, 2) := by decide +kernel
theorem dX2_type_39 : decode cX2_type 39 = .ok (.iload 4, 2) := by decide +kernel
theorem dX2_type_41 : decode cX2_type 41 = .ok (.ifCond .lt 22, 3) := by decide +kernel
theorem dX2_type_44 : decode cX2_type 44 = .ok (.aload_n 0, 1) := by decide +kernel
theorem dX2_type_45 : decode cX2_type 45 = .ok (.getfield 10, 3) := by decide +kernel
theorem dX2_type_48 : decode cX2_type 48 = .ok (.lload_n 1, 1) := by decide +kernel
theorem dX2_type_49 : decode cX2_type 49 = .ok (.iload 4, 2) := by decide +kernel
theorem dX2_type_51 : decode cX2_type 51 = .ok (.lshr, 1) := by decide +kernel
theorem dX2_type_52 : decode cX2_type 52 = .ok (.l2i, 1) := by decide +kernel
theorem dX2_type_53 : decode cX2_type 53 = .ok (.i2b, 1) := by decide +kernel
theorem dX2_type_54 : decode cX2_type 54 = .ok (.invokevirtual 37, 3) := by decide +kernel
theorem dX2_type_57 : decode cX2_type 57 = .ok (.iinc 4 (-8), 3) := by decide +kernel
theorem dX2_type_60 : decode cX2_type 60 = .ok (.goto (-21), 3) := by decide +kernel
theorem dX2_type_63 : decode cX2_type 63 = .ok (.aload_n 0, 1) := by decide +kernel
theorem dX2_type_64 : decode cX2_type 64 = .ok (.getfield 10, 3) := by decide +kernel
theorem dX2_type_67 : decode cX2_type 67 = .ok (.getfield 33, 3) := by decide +kernel
theorem dX2_type_70 : decode cX2_type 70 = .ok (.ireturn, 1) := by decide +kernel
theorem dX2_clear_0 : decode cX2_clear 0 = .ok (.aload_n 0, 1) := by decide +kernel
theorem dX2_clear_1 : decode cX2_clear 1 = .ok (.getfield 10, 3) := by decide +kernel
theorem dX2_clear_4 : decode cX2_clear 4 = .ok (.getfield 33, 3) := by decide +kernel
theorem dX2_clear_7 : decode cX2_clear 7 = .ok (.istore_n 1, 1) := by decide +kernel
theorem dX2_clear_8 : decode cX2_clear 8 = .ok (.aload_n 0, 1) := by decide +kernel
theorem dX2_clear_9 : decode cX2_clear 9 = .ok (.getfield 10, 3) := by decide +kernel
theorem dX2_clear_12 : decode cX2_clear 12 = .ok (.iconst 0, 1) := by decide +kernel
theorem dX2_clear_13 : decode cX2_clear 13 = .ok (.putfield 33, 3) := by decide +kernel
theorem dX2_clear_16 : decode cX2_clear 16 = .ok (.iload_n 1, 1) := by decide +kernel
theorem dX2_clear_17 : decode cX2_clear 17 = .ok (.ireturn, 1) := by decide +kernel
set_option maxRecDepth 20000 in
theorem ggX2_rules_X1_readInto : GoodIn wsX2_rules wsX1_readInto := goodIn_r _ [10, 11, 12, 13, 14, 15, 16, 17, 18, 19, 20, 21, 8, 22, 23, 24, 25, 26, 27, 28, 29, 30, 31, 32, 33, 34, 35, 36, 37, 38, 39, 40, 41, 42, 43, 44, 45, 46, 47, 48, 49, 50, 51, 52, 53, 54, 55, 56, 57, 58, 59, 60, 61, 62, 63, 64, 65, 66, 67, 68, 69, 70, 80, 81, 82, 83, 84, 85, 86, 87, 88, 89] (by decide +kernel) (by decide +kernel)
set_option maxRecDepth 20000 in
theorem gX2_rules_X1_readInto_n41 : GoodIn wsX2_rules (wsX1_readInto) := ggX2_rules_X1_readInto
theorem dX2_rules_0 : decode cX2_rules 0 = .ok (.aload_n 0, 1) := by decide +kernel
theorem dX2_rules_1 : decode cX2_rules 1 = .ok (.getfield 10, 3) := by decide +kernel
theorem dX2_rules_4 : decode cX2_rules 4 = .ok (.aload_n 0, 1) := by decide +kernel
theorem dX2_rules_5 : decode cX2_rules 5 = .ok (.getfield 23, 3) := by decide +kernel
theorem dX2_rules_8 : decode cX2_rules 8 = .ok (.invokevirtual 41, 3) := by decide +kernel
theorem dX2_rules_11 : decode cX2_rules 11 = .ok (.istore_n 1, 1) := by decide +kernel
theorem dX2_rules_12 : decode cX2_rules 12 = .ok (.iload_n 1, 1) := by decide +kernel
theorem dX2_rules_13 : decode cX2_rules 13 = .ok (.bipush (-9), 2) := by decide +kernel
theorem dX2_rules_15 : decode cX2_rules 15 = .ok (.if_icmp .ne 14, 3) := by decide +kernel
theorem dX2_rules_18 : decode cX2_rules 18 = .ok (.bipush (-10), 2) := by decide +kernel
theorem dX2_rules_20 : decode cX2_rules 20 = .ok (.aload_n 0, 1) := by decide +kernel
theorem dX2_rules_21 : decode cX2_rules 21 = .ok (.getfield 10, 3) := by decide +kernel
theorem dX2_rules_24 : decode cX2_rules 24 = .ok (.getfield 45, 3) := by decide +kernel
theorem dX2_rules_27 : decode cX2_rules 27 = .ok (.isub, 1) := by decide +kernel
theorem dX2_rules_28 : decode cX2_rules 28 = .ok (.ireturn, 1) := by decide +kernel
theorem dX2_rules_29 : decode cX2_rules 29 = .ok (.aload_n 0, 1) := by decide +kernel
theorem dX2_rules_30 : decode cX2_rules 30 = .ok (.getfield 19, 3) := by decide +kernel
theorem dX2_rules_33 : decode cX2_rules 33 = .ok (.astore_n 2, 1) := by decide +kernel
theorem dX2_rules_34 : decode cX2_rules 34 = .ok (.aload_n 0, 1) := by decide +kernel
theorem dX2_rules_35 : decode cX2_rules 35 = .ok (.aload_n 0, 1) := by decide +kernel
theorem dX2_rules_36 : decode cX2_rules 36 = .ok (.getfield 23, 3) := by decide +kernel
theorem dX2_rules_39 : decode cX2_rules 39 = .ok (.putfield 19, 3) := by decide +kernel
theorem dX2_rules_42 : decode cX2_rules 42 = .ok (.aload_n 0, 1) := by decide +kernel
theorem dX2_rules_43 : decode cX2_rules 43 = .ok (.aload_n 2, 1) := by decide +kernel
theorem dX2_rules_44 : decode cX2_rules 44 = .ok (.putfield 23, 3) := by decide +kernel
theorem dX2_rules_47 : decode cX2_rules 47 = .ok (.aload_n 0, 1) := by decide +kernel
theorem dX2_rules_48 : decode cX2_rules 48 = .ok (.iconst 1, 1) := by decide +kernel
theorem dX2_rules_49 : decode cX2_rules 49 = .ok (.aload_n 0, 1) := by decide +kernel
theorem dX2_rules_50 : decode cX2_rules 50 = .ok (.getfield 19, 3) := by decide +kernel
theorem dX2_rules_53 : decode cX2_rules 53 = .ok (.getfield 48, 3) := by decide +kernel
theorem dX2_rules_56 : decode cX2_rules 56 = .ok (.ishl, 1) := by decide +kernel
theorem dX2_rules_57 : decode cX2_rules 57 = .ok (.iconst 1, 1) := by decide +kernel
theorem dX2_rules_58 : decode cX2_rules 58 = .ok (.isub, 1) := by decide +kernel
theorem dX2_rules_59 : decode cX2_rules 59 = .ok (.putfield 51, 3) := by decide +kernel
theorem dX2_rules_62 : decode cX2_rules 62 = .ok (.aload_n 0, 1) := by decide +kernel
theorem dX2_rules_63 : decode cX2_rules 63 = .ok (.iconst 0, 1) := by decide +kernel
theorem dX2_rules_64 : decode cX2_rules 64 = .ok (.putfield 54, 3) := by decide +kernel
theorem dX2_rules_67 : decode cX2_rules 67 = .ok (.aload_n 0, 1) := by decide +kernel
theorem dX2_rules_68 : decode cX2_rules 68 = .ok (.iconst 0, 1) := by decide +kernel
theorem dX2_rules_69 : decode cX2_rules 69 = .ok (.putfield 57, 3) := by decide +kernel
theorem dX2_rules_72 : decode cX2_rules 72 = .ok (.aload_n 0, 1) := by decide +kernel
theorem dX2_rules_73 : decode cX2_rules 73 = .ok (.getfield 10, 3) := by decide +kernel
theorem dX2_rules_76 : decode cX2_rules 76 = .ok (.iconst 0, 1) := by decide +kernel
theorem dX2_rules_77 : decode cX2_rules 77 = .ok (.putfield 33, 3) := by decide +kernel
theorem dX2_rules_80 : decode cX2_rules 80 = .ok (.iload_n 1, 1) := by decide +kernel
theorem dX2_rules_81 : decode cX2_rules 81 = .ok (.ireturn, 1) := by decide +kernel
set_option maxRecDepth 20000 in
theorem ggX2_rule_X2_isRule : GoodIn wsX2_rule wsX2_isRule := goodIn_r _ [7, 1, 11, 12, 13, 14, 15, 16, 17, 18, 19, 20, 21, 22, 23, 24] (by decide +kernel) (by decide +kernel)
set_option maxRecDepth 20000 in
theorem gX2_rule_X2_isRule : GoodIn wsX2_rule (wsV RX2 60 RX2 yX2_isRule wsX2_isRule) := goodIn_app (goodIn_of _ (by decide +kernel)) ggX2_rule_X2_isRule
set_option maxRecDepth 20000 in
theorem ggX2_rule_X2_bitOf : GoodIn wsX2_rule wsX2_bitOf := goodIn_r _ [10] (by decide +kernel) (by decide +kernel)
set_option maxRecDepth 20000 in
theorem gX2_rule_X2_bitOf : GoodIn wsX2_rule (va_wsS RX2 73 yX2_bitOf wsX2_bitOf) := goodIn_app (goodIn_of _ (by decide +kernel)) ggX2_rule_X2_bitOf
theorem dX2_rule_0 : decode cX2_rule 0 = .ok (.aload_n 0, 1) := by decide +kernel
theorem dX2_rule_1 : decode cX2_rule 1 = .ok (.iload_n 1, 1) := by decide +kernel
theorem dX2_rule_2 : decode cX2_rule 2 = .ok (.invokevirtual 60, 3) := by decide +kernel
theorem dX2_rule_5 : decode cX2_rule 5 = .ok (.ifCond .ne 5, 3) := by decide +kernel
theorem dX2_rule_8 : decode cX2_rule 8 = .ok (.iconst (-1), 1) := by decide +kernel
theorem dX2_rule_9 : decode cX2_rule 9 = .ok (.ireturn, 1) := by decide +kernel
theorem dX2_rule_10 : decode cX2_rule 10 = .ok (.iload_n 2, 1) := by decide +kernel
theorem dX2_rule_11 : decode cX2_rule 11 = .ok (.tableswitch 68 0 3 #[29, 39, 49, 59], 29) := by decide +kernel
theorem dX2_rule_40 : decode cX2_rule 40 = .ok (.aload_n 0, 1) := by decide +kernel
theorem dX2_rule_41 : decode cX2_rule 41 = .ok (.getfield 19, 3) := by decide +kernel
theorem dX2_rule_44 : decode cX2_rule 44 = .ok (.getfield 64, 3) := by decide +kernel
theorem dX2_rule_47 : decode cX2_rule 47 = .ok (.iload_n 1, 1) := by decide +kernel
theorem dX2_rule_48 : decode cX2_rule 48 = .ok (.iaload, 1) := by decide +kernel
theorem dX2_rule_49 : decode cX2_rule 49 = .ok (.ireturn, 1) := by decide +kernel
theorem dX2_rule_50 : decode cX2_rule 50 = .ok (.aload_n 0, 1) := by decide +kernel
theorem dX2_rule_51 : decode cX2_rule 51 = .ok (.getfield 19, 3) := by decide +kernel
theorem dX2_rule_54 : decode cX2_rule 54 = .ok (.getfield 67, 3) := by decide +kernel
theorem dX2_rule_57 : decode cX2_rule 57 = .ok (.iload_n 1, 1) := by decide +kernel
theorem dX2_rule_58 : decode cX2_rule 58 = .ok (.iaload, 1) := by decide +kernel
theorem dX2_rule_59 : decode cX2_rule 59 = .ok (.ireturn, 1) := by decide +kernel
theorem dX2_rule_60 : decode cX2_rule 60 = .ok (.aload_n 0, 1) := by decide +kernel
theorem dX2_rule_61 : decode cX2_rule 61 = .ok (.getfield 19, 3) := by decide +kernel
theorem dX2_rule_64 : decode cX2_rule 64 = .ok (.getfield 70, 3) := by decide +kernel
theorem dX2_rule_67 : decode cX2_rule 67 = .ok (.iload_n 1, 1) := by decide +kernel
theorem dX2_rule_68 : decode cX2_rule 68 = .ok (.iaload, 1) := by decide +kernel
theorem dX2_rule_69 : decode cX2_rule 69 = .ok (.ireturn, 1) := by decide +kernel
theorem dX2_rule_70 : decode cX2_rule 70 = .ok (.aload_n 0, 1) := by decide +kernel
theorem dX2_rule_71 : decode cX2_rule 71 = .ok (.getfield 51, 3) := by decide +kernel
theorem dX2_rule_74 : decode cX2_rule 74 = .ok (.iload_n 1, 1) := by decide +kernel
theorem dX2_rule_75 : decode cX2_rule 75 = .ok (.invokestatic 73, 3) := by decide +kernel
theorem dX2_rule_78 : decode cX2_rule 78 = .ok (.ireturn, 1) := by decide +kernel
theorem dX2_rule_79 : decode cX2_rule 79 = .ok (.iconst (-1), 1) := by decide +kernel
theorem dX2_rule_80 : decode cX2_rule 80 = .ok (.ireturn, 1) := by decide +kernel
set_option maxRecDepth 20000 in
theorem ggX2_turn_X2_isRule : GoodIn wsX2_turn wsX2_isRule := goodIn_r _ [6, 7, 17, 18, 19, 20, 21, 22, 23, 24, 25, 26, 27, 28, 29, 30] (by decide +kernel) (by decide +kernel)
set_option maxRecDepth 20000 in
theorem gX2_turn_X2_isRule : GoodIn wsX2_turn (wsV RX2 60 RX2 yX2_isRule wsX2_isRule) := goodIn_app (goodIn_of _ (by decide +kernel)) ggX2_turn_X2_isRule
set_option maxRecDepth 20000 in
theorem ggX2_turn_X2_isBit : GoodIn wsX2_turn wsX2_isBit := goodIn_r _ [10] (by decide +kernel) (by decide +kernel)
set_option maxRecDepth 20000 in
theorem gX2_turn_X2_isBit : GoodIn wsX2_turn (va_wsS RX2 77 yX2_isBit wsX2_isBit) := goodIn_app (goodIn_of _ (by decide +kernel)) ggX2_turn_X2_isBit
set_option maxRecDepth 20000 in
theorem ggX2_turn_X2_bitOf : GoodIn wsX2_turn wsX2_bitOf := goodIn_r _ [13] (by decide +kernel) (by decide +kernel)
set_option maxRecDepth 20000 in
theorem gX2_turn_X2_bitOf : GoodIn wsX2_turn (va_wsS RX2 73 yX2_bitOf wsX2_bitOf) := goodIn_app (goodIn_of _ (by decide +kernel)) ggX2_turn_X2_bitOf
set_option maxRecDepth 20000 in
theorem ggX2_turn_X2_withBit : GoodIn wsX2_turn wsX2_withBit := goodIn_r _ [16] (by decide +kernel) (by decide +kernel)
set_option maxRecDepth 20000 in
theorem gX2_turn_X2_withBit : GoodIn wsX2_turn (va_wsS RX2 80 yX2_withBit wsX2_withBit) := goodIn_app (goodIn_of _ (by decide +kernel)) ggX2_turn_X2_withBit
theorem dX2_turn_0 : decode cX2_turn 0 = .ok (.aload_n 0, 1) := by decide +kernel
theorem dX2_turn_1 : decode cX2_turn 1 = .ok (.iload_n 1, 1) := by decide +kernel
theorem dX2_turn_2 : decode cX2_turn 2 = .ok (.invokevirtual 60, 3) := by decide +kernel
theorem dX2_turn_5 : decode cX2_turn 5 = .ok (.ifCond .eq 10, 3) := by decide +kernel
theorem dX2_turn_8 : decode cX2_turn 8 = .ok (.iload_n 2, 1) := by decide +kernel
theorem dX2_turn_9 : decode cX2_turn 9 = .ok (.invokestatic 77, 3) := by decide +kernel
theorem dX2_turn_12 : decode cX2_turn 12 = .ok (.ifCond .ne 5, 3) := by decide +kernel
theorem dX2_turn_15 : decode cX2_turn 15 = .ok (.iconst (-1), 1) := by decide +kernel
theorem dX2_turn_16 : decode cX2_turn 16 = .ok (.ireturn, 1) := by decide +kernel
theorem dX2_turn_17 : decode cX2_turn 17 = .ok (.aload_n 0, 1) := by decide +kernel
theorem dX2_turn_18 : decode cX2_turn 18 = .ok (.getfield 51, 3) := by decide +kernel
theorem dX2_turn_21 : decode cX2_turn 21 = .ok (.iload_n 1, 1) := by decide +kernel
theorem dX2_turn_22 : decode cX2_turn 22 = .ok (.invokestatic 73, 3) := by decide +kernel
theorem dX2_turn_25 : decode cX2_turn 25 = .ok (.istore_n 3, 1) := by decide +kernel
theorem dX2_turn_26 : decode cX2_turn 26 = .ok (.aload_n 0, 1) := by decide +kernel
theorem dX2_turn_27 : decode cX2_turn 27 = .ok (.aload_n 0, 1) := by decide +kernel
theorem dX2_turn_28 : decode cX2_turn 28 = .ok (.getfield 51, 3) := by decide +kernel
theorem dX2_turn_31 : decode cX2_turn 31 = .ok (.iload_n 1, 1) := by decide +kernel
theorem dX2_turn_32 : decode cX2_turn 32 = .ok (.iload_n 2, 1) := by decide +kernel
theorem dX2_turn_33 : decode cX2_turn 33 = .ok (.invokestatic 80, 3) := by decide +kernel
theorem dX2_turn_36 : decode cX2_turn 36 = .ok (.putfield 51, 3) := by decide +kernel
theorem dX2_turn_39 : decode cX2_turn 39 = .ok (.iload_n 3, 1) := by decide +kernel
theorem dX2_turn_40 : decode cX2_turn 40 = .ok (.ireturn, 1) := by decide +kernel
set_option maxRecDepth 20000 in
theorem ggX2_assume_X2_isSentence : GoodIn wsX2_assume wsX2_isSentence := goodIn_r _ [5] (by decide +kernel) (by decide +kernel)
set_option maxRecDepth 20000 in
theorem gX2_assume_X2_isSentence : GoodIn wsX2_assume (va_wsS RX2 84 yX2_isSentence wsX2_isSentence) := goodIn_app (goodIn_of _ (by decide +kernel)) ggX2_assume_X2_isSentence
set_option maxRecDepth 20000 in
theorem ggX2_assume_X2_isBit : GoodIn wsX2_assume wsX2_isBit := goodIn_r _ [8] (by decide +kernel) (by decide +kernel)
set_option maxRecDepth 20000 in
theorem gX2_assume_X2_isBit : GoodIn wsX2_assume (va_wsS RX2 77 yX2_isBit wsX2_isBit) := goodIn_app (goodIn_of _ (by decide +kernel)) ggX2_assume_X2_isBit
set_option maxRecDepth 20000 in
theorem ggX2_assume_X2_bitOf : GoodIn wsX2_assume wsX2_bitOf := goodIn_r _ [11] (by decide +kernel) (by decide +kernel)
set_option maxRecDepth 20000 in
theorem gX2_assume_X2_bitOf : GoodIn wsX2_assume (va_wsS RX2 73 yX2_bitOf wsX2_bitOf) := goodIn_app (goodIn_of _ (by decide +kernel)) ggX2_assume_X2_bitOf
set_option maxRecDepth 20000 in
theorem ggX2_assume_X2_withBit : GoodIn wsX2_assume wsX2_withBit := goodIn_r _ [14] (by decide +kernel) (by decide +kernel)
set_option maxRecDepth 20000 in
theorem gX2_assume_X2_withBit : GoodIn wsX2_assume (va_wsS RX2 80 yX2_withBit wsX2_withBit) := goodIn_app (goodIn_of _ (by decide +kernel)) ggX2_assume_X2_withBit
theorem dX2_assume_0 : decode cX2_assume 0 = .ok (.iload_n 1, 1) := by decide +kernel
theorem dX2_assume_1 : decode cX2_assume 1 = .ok (.invokestatic 84, 3) := by decide +kernel
theorem dX2_assume_4 : decode cX2_assume 4 = .ok (.ifCond .eq 10, 3) := by decide +kernel
theorem dX2_assume_7 : decode cX2_assume 7 = .ok (.iload_n 2, 1) := by decide +kernel
theorem dX2_assume_8 : decode cX2_assume 8 = .ok (.invokestatic 77, 3) := by decide +kernel
theorem dX2_assume_11 : decode cX2_assume 11 = .ok (.ifCond .ne 5, 3) := by decide +kernel
theorem dX2_assume_14 : decode cX2_assume 14 = .ok (.iconst (-1), 1) := by decide +kernel
theorem dX2_assume_15 : decode cX2_assume 15 = .ok (.ireturn, 1) := by decide +kernel
theorem dX2_assume_16 : decode cX2_assume 16 = .ok (.aload_n 0, 1) := by decide +kernel
theorem dX2_assume_17 : decode cX2_assume 17 = .ok (.getfield 54, 3) := by decide +kernel
theorem dX2_assume_20 : decode cX2_assume 20 = .ok (.iload_n 1, 1) := by decide +kernel
theorem dX2_assume_21 : decode cX2_assume 21 = .ok (.invokestatic 73, 3) := by decide +kernel
theorem dX2_assume_24 : decode cX2_assume 24 = .ok (.istore_n 3, 1) := by decide +kernel
theorem dX2_assume_25 : decode cX2_assume 25 = .ok (.aload_n 0, 1) := by decide +kernel
theorem dX2_assume_26 : decode cX2_assume 26 = .ok (.aload_n 0, 1) := by decide +kernel
theorem dX2_assume_27 : decode cX2_assume 27 = .ok (.getfield 54, 3) := by decide +kernel
theorem dX2_assume_30 : decode cX2_assume 30 = .ok (.iload_n 1, 1) := by decide +kernel
theorem dX2_assume_31 : decode cX2_assume 31 = .ok (.iload_n 2, 1) := by decide +kernel
theorem dX2_assume_32 : decode cX2_assume 32 = .ok (.invokestatic 80, 3) := by decide +kernel
theorem dX2_assume_35 : decode cX2_assume 35 = .ok (.putfield 54, 3) := by decide +kernel
theorem dX2_assume_38 : decode cX2_assume 38 = .ok (.iload_n 3, 1) := by decide +kernel
theorem dX2_assume_39 : decode cX2_assume 39 = .ok (.ireturn, 1) := by decide +kernel
set_option maxRecDepth 20000 in
theorem ggX2_sets_X0_upholds : GoodIn wsX2_sets wsX0_upholds := goodIn_r _ [7, 8, 9, 10, 11, 5, 12, 13, 14, 15, 16, 17, 18, 19, 20, 21, 22, 23, 24, 25, 26, 27, 28, 29, 30, 31, 41, 42, 43, 44, 45] (by decide +kernel) (by decide +kernel)
set_option maxRecDepth 20000 in
theorem gX2_sets_X0_upholds_n87 : GoodIn wsX2_sets (wsX0_upholds) := ggX2_sets_X0_upholds
theorem dX2_sets_0 : decode cX2_sets 0 = .ok (.iconst 0, 1) := by decide +kernel
theorem dX2_sets_1 : decode cX2_sets 1 = .ok (.istore_n 1, 1) := by decide +kernel
theorem dX2_sets_2 : decode cX2_sets 2 = .ok (.iconst 0, 1) := by decide +kernel
theorem dX2_sets_3 : decode cX2_sets 3 = .ok (.istore_n 2, 1) := by decide +kernel
theorem dX2_sets_4 : decode cX2_sets 4 = .ok (.iload_n 2, 1) := by decide +kernel
theorem dX2_sets_5 : decode cX2_sets 5 = .ok (.sipush 255, 3) := by decide +kernel
theorem dX2_sets_8 : decode cX2_sets 8 = .ok (.if_icmp .gt 31, 3) := by decide +kernel
theorem dX2_sets_11 : decode cX2_sets 11 = .ok (.aload_n 0, 1) := by decide +kernel
theorem dX2_sets_12 : decode cX2_sets 12 = .ok (.getfield 19, 3) := by decide +kernel
theorem dX2_sets_15 : decode cX2_sets 15 = .ok (.iload_n 2, 1) := by decide +kernel
theorem dX2_sets_16 : decode cX2_sets 16 = .ok (.aload_n 0, 1) := by decide +kernel
theorem dX2_sets_17 : decode cX2_sets 17 = .ok (.getfield 51, 3) := by decide +kernel
theorem dX2_sets_20 : decode cX2_sets 20 = .ok (.aload_n 0, 1) := by decide +kernel
theorem dX2_sets_21 : decode cX2_sets 21 = .ok (.getfield 54, 3) := by decide +kernel
theorem dX2_sets_24 : decode cX2_sets 24 = .ok (.invokevirtual 87, 3) := by decide +kernel
theorem dX2_sets_27 : decode cX2_sets 27 = .ok (.ifCond .eq 6, 3) := by decide +kernel
theorem dX2_sets_30 : decode cX2_sets 30 = .ok (.iinc 1 1, 3) := by decide +kernel
theorem dX2_sets_33 : decode cX2_sets 33 = .ok (.iinc 2 1, 3) := by decide +kernel
theorem dX2_sets_36 : decode cX2_sets 36 = .ok (.goto (-32), 3) := by decide +kernel
theorem dX2_sets_39 : decode cX2_sets 39 = .ok (.iload_n 1, 1) := by decide +kernel
theorem dX2_sets_40 : decode cX2_sets 40 = .ok (.ireturn, 1) := by decide +kernel
set_option maxRecDepth 20000 in
theorem ggX2_set_X2_standingSet : GoodIn wsX2_set wsX2_standingSet := goodIn_r _ [5, 6, 7, 8, 9, 10, 11, 12, 13, 14, 15, 16, 17, 18, 19, 20, 4, 21, 22, 23, 24, 25, 26, 27, 28, 29, 30, 31, 32, 33, 34, 35, 36, 37, 38, 39, 40, 41, 42, 43, 44, 45, 46, 47, 48, 49] (by decide +kernel) (by decide +kernel)
set_option maxRecDepth 20000 in
theorem gX2_set_X2_standingSet : GoodIn wsX2_set (wsV RX2 91 RX2 yX2_standingSet wsX2_standingSet) := goodIn_app (goodIn_of _ (by decide +kernel)) ggX2_set_X2_standingSet
theorem dX2_set_0 : decode cX2_set 0 = .ok (.iload_n 1, 1) := by decide +kernel
theorem dX2_set_1 : decode cX2_set 1 = .ok (.ifCond .ge 7, 3) := by decide +kernel
theorem dX2_set_4 : decode cX2_set 4 = .ok (.iconst (-1), 1) := by decide +kernel
theorem dX2_set_5 : decode cX2_set 5 = .ok (.goto 8, 3) := by decide +kernel
theorem dX2_set_8 : decode cX2_set 8 = .ok (.aload_n 0, 1) := by decide +kernel
theorem dX2_set_9 : decode cX2_set 9 = .ok (.iload_n 1, 1) := by decide +kernel
theorem dX2_set_10 : decode cX2_set 10 = .ok (.invokevirtual 91, 3) := by decide +kernel
theorem dX2_set_13 : decode cX2_set 13 = .ok (.ireturn, 1) := by decide +kernel
set_option maxRecDepth 20000 in
theorem ggX2_stands_X2_isSet : GoodIn wsX2_stands wsX2_isSet := goodIn_r _ [7] (by decide +kernel) (by decide +kernel)
set_option maxRecDepth 20000 in
theorem gX2_stands_X2_isSet : GoodIn wsX2_stands (va_wsS RX2 95 yX2_isSet wsX2_isSet) := goodIn_app (goodIn_of _ (by decide +kernel)) ggX2_stands_X2_isSet
set_option maxRecDepth 20000 in
theorem ggX2_stands_X0_upholds : GoodIn wsX2_stands wsX0_upholds := goodIn_r _ [11, 12, 13, 14, 15, 9, 16, 17, 18, 19, 6, 20, 21, 22, 23, 24, 25, 26, 27, 28, 29, 30, 31, 32, 33, 34, 44, 45, 46, 47, 48] (by decide +kernel) (by decide +kernel)
set_option maxRecDepth 20000 in
theorem gX2_stands_X0_upholds_n87 : GoodIn wsX2_stands (wsX0_upholds) := ggX2_stands_X0_upholds
theorem dX2_stands_0 : decode cX2_stands 0 = .ok (.iload_n 1, 1) := by decide +kernel
theorem dX2_stands_1 : decode cX2_stands 1 = .ok (.invokestatic 95, 3) := by decide +kernel
theorem dX2_stands_4 : decode cX2_stands 4 = .ok (.ifCond .ne 5, 3) := by decide +kernel
theorem dX2_stands_7 : decode cX2_stands 7 = .ok (.iconst (-1), 1) := by decide +kernel
theorem dX2_stands_8 : decode cX2_stands 8 = .ok (.ireturn, 1) := by decide +kernel
theorem dX2_stands_9 : decode cX2_stands 9 = .ok (.aload_n 0, 1) := by decide +kernel
theorem dX2_stands_10 : decode cX2_stands 10 = .ok (.getfield 19, 3) := by decide +kernel
theorem dX2_stands_13 : decode cX2_stands 13 = .ok (.iload_n 1, 1) := by decide +kernel
theorem dX2_stands_14 : decode cX2_stands 14 = .ok (.aload_n 0, 1) := by decide +kernel
theorem dX2_stands_15 : decode cX2_stands 15 = .ok (.getfield 51, 3) := by decide +kernel
theorem dX2_stands_18 : decode cX2_stands 18 = .ok (.aload_n 0, 1) := by decide +kernel
theorem dX2_stands_19 : decode cX2_stands 19 = .ok (.getfield 54, 3) := by decide +kernel
theorem dX2_stands_22 : decode cX2_stands 22 = .ok (.invokevirtual 87, 3) := by decide +kernel
theorem dX2_stands_25 : decode cX2_stands 25 = .ok (.ifCond .eq 7, 3) := by decide +kernel
theorem dX2_stands_28 : decode cX2_stands 28 = .ok (.iconst 1, 1) := by decide +kernel
theorem dX2_stands_29 : decode cX2_stands 29 = .ok (.goto 4, 3) := by decide +kernel
theorem dX2_stands_32 : decode cX2_stands 32 = .ok (.iconst 0, 1) := by decide +kernel
theorem dX2_stands_33 : decode cX2_stands 33 = .ok (.ireturn, 1) := by decide +kernel
set_option maxRecDepth 20000 in
theorem ggX2_holds_X2_isBit : GoodIn wsX2_holds wsX2_isBit := goodIn_r _ [7] (by decide +kernel) (by decide +kernel)
set_option maxRecDepth 20000 in
theorem gX2_holds_X2_isBit : GoodIn wsX2_holds (va_wsS RX2 77 yX2_isBit wsX2_isBit) := goodIn_app (goodIn_of _ (by decide +kernel)) ggX2_holds_X2_isBit
set_option maxRecDepth 20000 in
theorem ggX2_holds_X0_upholds : GoodIn wsX2_holds wsX0_upholds := goodIn_r _ [11, 12, 13, 14, 15, 9, 16, 17, 18, 19, 6, 20, 21, 22, 23, 24, 25, 26, 27, 28, 29, 30, 31, 32, 33, 34, 44, 45, 46, 47, 48] (by decide +kernel) (by decide +kernel)
set_option maxRecDepth 20000 in
theorem gX2_holds_X0_upholds_n87 : GoodIn wsX2_holds (wsX0_upholds) := ggX2_holds_X0_upholds
theorem dX2_holds_0 : decode cX2_holds 0 = .ok (.iload_n 1, 1) := by decide +kernel
theorem dX2_holds_1 : decode cX2_holds 1 = .ok (.invokestatic 77, 3) := by decide +kernel
theorem dX2_holds_4 : decode cX2_holds 4 = .ok (.ifCond .ne 5, 3) := by decide +kernel
theorem dX2_holds_7 : decode cX2_holds 7 = .ok (.iconst (-1), 1) := by decide +kernel
theorem dX2_holds_8 : decode cX2_holds 8 = .ok (.ireturn, 1) := by decide +kernel
theorem dX2_holds_9 : decode cX2_holds 9 = .ok (.iconst 0, 1) := by decide +kernel
theorem dX2_holds_10 : decode cX2_holds 10 = .ok (.istore_n 2, 1) := by decide +kernel
theorem dX2_holds_11 : decode cX2_holds 11 = .ok (.sipush 255, 3) := by decide +kernel
theorem dX2_holds_14 : decode cX2_holds 14 = .ok (.istore_n 3, 1) := by decide +kernel
theorem dX2_holds_15 : decode cX2_holds 15 = .ok (.iconst 0, 1) := by decide +kernel
theorem dX2_holds_16 : decode cX2_holds 16 = .ok (.istore 4, 2) := by decide +kernel
theorem dX2_holds_18 : decode cX2_holds 18 = .ok (.iload 4, 2) := by decide +kernel
theorem dX2_holds_20 : decode cX2_holds 20 = .ok (.sipush 255, 3) := by decide +kernel
theorem dX2_holds_23 : decode cX2_holds 23 = .ok (.if_icmp .gt 39, 3) := by decide +kernel
theorem dX2_holds_26 : decode cX2_holds 26 = .ok (.aload_n 0, 1) := by decide +kernel
theorem dX2_holds_27 : decode cX2_holds 27 = .ok (.getfield 19, 3) := by decide +kernel
theorem dX2_holds_30 : decode cX2_holds 30 = .ok (.iload 4, 2) := by decide +kernel
theorem dX2_holds_32 : decode cX2_holds 32 = .ok (.aload_n 0, 1) := by decide +kernel
theorem dX2_holds_33 : decode cX2_holds 33 = .ok (.getfield 51, 3) := by decide +kernel
theorem dX2_holds_36 : decode cX2_holds 36 = .ok (.aload_n 0, 1) := by decide +kernel
theorem dX2_holds_37 : decode cX2_holds 37 = .ok (.getfield 54, 3) := by decide +kernel
theorem dX2_holds_40 : decode cX2_holds 40 = .ok (.invokevirtual 87, 3) := by decide +kernel
theorem dX2_holds_43 : decode cX2_holds 43 = .ok (.ifCond .eq 13, 3) := by decide +kernel
theorem dX2_holds_46 : decode cX2_holds 46 = .ok (.iload_n 2, 1) := by decide +kernel
theorem dX2_holds_47 : decode cX2_holds 47 = .ok (.iload 4, 2) := by decide +kernel
theorem dX2_holds_49 : decode cX2_holds 49 = .ok (.ior, 1) := by decide +kernel
theorem dX2_holds_50 : decode cX2_holds 50 = .ok (.istore_n 2, 1) := by decide +kernel
theorem dX2_holds_51 : decode cX2_holds 51 = .ok (.iload_n 3, 1) := by decide +kernel
theorem dX2_holds_52 : decode cX2_holds 52 = .ok (.iload 4, 2) := by decide +kernel
theorem dX2_holds_54 : decode cX2_holds 54 = .ok (.iand, 1) := by decide +kernel
theorem dX2_holds_55 : decode cX2_holds 55 = .ok (.istore_n 3, 1) := by decide +kernel
theorem dX2_holds_56 : decode cX2_holds 56 = .ok (.iinc 4 1, 3) := by decide +kernel
theorem dX2_holds_59 : decode cX2_holds 59 = .ok (.goto (-41), 3) := by decide +kernel
theorem dX2_holds_62 : decode cX2_holds 62 = .ok (.iload_n 1, 1) := by decide +kernel
theorem dX2_holds_63 : decode cX2_holds 63 = .ok (.ifCond .ne 7, 3) := by decide +kernel
theorem dX2_holds_66 : decode cX2_holds 66 = .ok (.iload_n 2, 1) := by decide +kernel
theorem dX2_holds_67 : decode cX2_holds 67 = .ok (.goto 4, 3) := by decide +kernel
theorem dX2_holds_70 : decode cX2_holds 70 = .ok (.iload_n 3, 1) := by decide +kernel
theorem dX2_holds_71 : decode cX2_holds 71 = .ok (.ireturn, 1) := by decide +kernel
set_option maxRecDepth 20000 in
theorem ggX2_known_X2_isSentence : GoodIn wsX2_known wsX2_isSentence := goodIn_r _ [7] (by decide +kernel) (by decide +kernel)
set_option maxRecDepth 20000 in
theorem gX2_known_X2_isSentence : GoodIn wsX2_known (va_wsS RX2 84 yX2_isSentence wsX2_isSentence) := goodIn_app (goodIn_of _ (by decide +kernel)) ggX2_known_X2_isSentence
set_option maxRecDepth 20000 in
theorem ggX2_known_X0_comesOf : GoodIn wsX2_known wsX0_comesOf := goodIn_r _ [11, 12, 13, 14, 9, 15, 16, 17, 18, 6, 19, 20, 21, 22, 23, 24, 25, 36, 37, 38, 39, 40] (by decide +kernel) (by decide +kernel)
set_option maxRecDepth 20000 in
theorem gX2_known_X0_comesOf_n98 : GoodIn wsX2_known (wsX0_comesOf) := ggX2_known_X0_comesOf
set_option maxRecDepth 20000 in
theorem ggX2_known_X2_bitOf : GoodIn wsX2_known wsX2_bitOf := goodIn_r _ [19] (by decide +kernel) (by decide +kernel)
set_option maxRecDepth 20000 in
theorem gX2_known_X2_bitOf : GoodIn wsX2_known (va_wsS RX2 73 yX2_bitOf wsX2_bitOf) := goodIn_app (goodIn_of _ (by decide +kernel)) ggX2_known_X2_bitOf
theorem dX2_known_0 : decode cX2_known 0 = .ok (.iload_n 1, 1) := by decide +kernel
theorem dX2_known_1 : decode cX2_known 1 = .ok (.invokestatic 84, 3) := by decide +kernel
theorem dX2_known_4 : decode cX2_known 4 = .ok (.ifCond .ne 5, 3) := by decide +kernel
theorem dX2_known_7 : decode cX2_known 7 = .ok (.iconst (-1), 1) := by decide +kernel
theorem dX2_known_8 : decode cX2_known 8 = .ok (.ireturn, 1) := by decide +kernel
theorem dX2_known_9 : decode cX2_known 9 = .ok (.iconst 0, 1) := by decide +kernel
theorem dX2_known_10 : decode cX2_known 10 = .ok (.istore_n 2, 1) := by decide +kernel
theorem dX2_known_11 : decode cX2_known 11 = .ok (.sipush 255, 3) := by decide +kernel
theorem dX2_known_14 : decode cX2_known 14 = .ok (.istore_n 3, 1) := by decide +kernel
theorem dX2_known_15 : decode cX2_known 15 = .ok (.iconst 0, 1) := by decide +kernel
theorem dX2_known_16 : decode cX2_known 16 = .ok (.istore 4, 2) := by decide +kernel
theorem dX2_known_18 : decode cX2_known 18 = .ok (.iload 4, 2) := by decide +kernel
theorem dX2_known_20 : decode cX2_known 20 = .ok (.bipush 16, 2) := by decide +kernel
theorem dX2_known_22 : decode cX2_known 22 = .ok (.if_icmp .gt 72, 3) := by decide +kernel
theorem dX2_known_25 : decode cX2_known 25 = .ok (.iload_n 2, 1) := by decide +kernel
theorem dX2_known_26 : decode cX2_known 26 = .ok (.istore 5, 2) := by decide +kernel
theorem dX2_known_28 : decode cX2_known 28 = .ok (.iload_n 3, 1) := by decide +kernel
theorem dX2_known_29 : decode cX2_known 29 = .ok (.istore 6, 2) := by decide +kernel
theorem dX2_known_31 : decode cX2_known 31 = .ok (.aload_n 0, 1) := by decide +kernel
theorem dX2_known_32 : decode cX2_known 32 = .ok (.getfield 19, 3) := by decide +kernel
theorem dX2_known_35 : decode cX2_known 35 = .ok (.aload_n 0, 1) := by decide +kernel
theorem dX2_known_36 : decode cX2_known 36 = .ok (.getfield 54, 3) := by decide +kernel
theorem dX2_known_39 : decode cX2_known 39 = .ok (.aload_n 0, 1) := by decide +kernel
theorem dX2_known_40 : decode cX2_known 40 = .ok (.getfield 51, 3) := by decide +kernel
theorem dX2_known_43 : decode cX2_known 43 = .ok (.iload_n 3, 1) := by decide +kernel
theorem dX2_known_44 : decode cX2_known 44 = .ok (.invokevirtual 98, 3) := by decide +kernel
theorem dX2_known_47 : decode cX2_known 47 = .ok (.istore_n 2, 1) := by decide +kernel
theorem dX2_known_48 : decode cX2_known 48 = .ok (.aload_n 0, 1) := by decide +kernel
theorem dX2_known_49 : decode cX2_known 49 = .ok (.getfield 19, 3) := by decide +kernel
theorem dX2_known_52 : decode cX2_known 52 = .ok (.aload_n 0, 1) := by decide +kernel
theorem dX2_known_53 : decode cX2_known 53 = .ok (.getfield 54, 3) := by decide +kernel
theorem dX2_known_56 : decode cX2_known 56 = .ok (.aload_n 0, 1) := by decide +kernel
theorem dX2_known_57 : decode cX2_known 57 = .ok (.getfield 19, 3) := by decide +kernel
theorem dX2_known_60 : decode cX2_known 60 = .ok (.getfield 101, 3) := by decide +kernel
theorem dX2_known_63 : decode cX2_known 63 = .ok (.ior, 1) := by decide +kernel
theorem dX2_known_64 : decode cX2_known 64 = .ok (.aload_n 0, 1) := by decide +kernel
theorem dX2_known_65 : decode cX2_known 65 = .ok (.getfield 51, 3) := by decide +kernel
theorem dX2_known_68 : decode cX2_known 68 = .ok (.iload_n 2, 1) := by decide +kernel
theorem dX2_known_69 : decode cX2_known 69 = .ok (.invokevirtual 98, 3) := by decide +kernel
theorem dX2_known_72 : decode cX2_known 72 = .ok (.istore_n 3, 1) := by decide +kernel
theorem dX2_known_73 : decode cX2_known 73 = .ok (.iload_n 2, 1) := by decide +kernel
theorem dX2_known_74 : decode cX2_known 74 = .ok (.iload 5, 2) := by decide +kernel
theorem dX2_known_76 : decode cX2_known 76 = .ok (.if_icmp .ne 12, 3) := by decide +kernel
theorem dX2_known_79 : decode cX2_known 79 = .ok (.iload_n 3, 1) := by decide +kernel
theorem dX2_known_80 : decode cX2_known 80 = .ok (.iload 6, 2) := by decide +kernel
theorem dX2_known_82 : decode cX2_known 82 = .ok (.if_icmp .ne 6, 3) := by decide +kernel
theorem dX2_known_85 : decode cX2_known 85 = .ok (.goto 9, 3) := by decide +kernel
theorem dX2_known_88 : decode cX2_known 88 = .ok (.iinc 4 1, 3) := by decide +kernel
theorem dX2_known_91 : decode cX2_known 91 = .ok (.goto (-73), 3) := by decide +kernel
theorem dX2_known_94 : decode cX2_known 94 = .ok (.iload_n 2, 1) := by decide +kernel
theorem dX2_known_95 : decode cX2_known 95 = .ok (.iload_n 1, 1) := by decide +kernel
theorem dX2_known_96 : decode cX2_known 96 = .ok (.invokestatic 73, 3) := by decide +kernel
theorem dX2_known_99 : decode cX2_known 99 = .ok (.iconst 1, 1) := by decide +kernel
theorem dX2_known_100 : decode cX2_known 100 = .ok (.if_icmp .ne 5, 3) := by decide +kernel
theorem dX2_known_103 : decode cX2_known 103 = .ok (.iconst 1, 1) := by decide +kernel
theorem dX2_known_104 : decode cX2_known 104 = .ok (.ireturn, 1) := by decide +kernel
theorem dX2_known_105 : decode cX2_known 105 = .ok (.iload_n 3, 1) := by decide +kernel
theorem dX2_known_106 : decode cX2_known 106 = .ok (.iload_n 1, 1) := by decide +kernel
theorem dX2_known_107 : decode cX2_known 107 = .ok (.invokestatic 73, 3) := by decide +kernel
theorem dX2_known_110 : decode cX2_known 110 = .ok (.ifCond .ne 7, 3) := by decide +kernel
theorem dX2_known_113 : decode cX2_known 113 = .ok (.iconst 0, 1) := by decide +kernel
theorem dX2_known_114 : decode cX2_known 114 = .ok (.goto 5, 3) := by decide +kernel
theorem dX2_known_117 : decode cX2_known 117 = .ok (.bipush (-9), 2) := by decide +kernel
theorem dX2_known_119 : decode cX2_known 119 = .ok (.ireturn, 1) := by decide +kernel
set_option maxRecDepth 20000 in
theorem ggX2_why_X2_isSentence : GoodIn wsX2_why wsX2_isSentence := goodIn_r _ [7] (by decide +kernel) (by decide +kernel)
set_option maxRecDepth 20000 in
theorem gX2_why_X2_isSentence : GoodIn wsX2_why (va_wsS RX2 84 yX2_isSentence wsX2_isSentence) := goodIn_app (goodIn_of _ (by decide +kernel)) ggX2_why_X2_isSentence
set_option maxRecDepth 20000 in
theorem ggX2_why_X2_isBit : GoodIn wsX2_why wsX2_isBit := goodIn_r _ [10] (by decide +kernel) (by decide +kernel)
set_option maxRecDepth 20000 in
theorem gX2_why_X2_isBit : GoodIn wsX2_why (va_wsS RX2 77 yX2_isBit wsX2_isBit) := goodIn_app (goodIn_of _ (by decide +kernel)) ggX2_why_X2_isBit
set_option maxRecDepth 20000 in
theorem ggX2_why_X2_standingSet : GoodIn wsX2_why wsX2_standingSet := goodIn_r _ [14, 2, 3, 1, 15, 16, 17, 18, 19, 20, 21, 22, 23, 24, 25, 26, 6, 27, 28, 29, 30, 31, 32, 33, 34, 35, 36, 37, 38, 39, 40, 41, 46, 47, 48, 49, 50, 51, 52, 53, 54, 55, 56, 57, 58, 59] (by decide +kernel) (by decide +kernel)
set_option maxRecDepth 20000 in
theorem gX2_why_X2_standingSet : GoodIn wsX2_why (wsV RX2 91 RX2 yX2_standingSet wsX2_standingSet) := goodIn_app (goodIn_of _ (by decide +kernel)) ggX2_why_X2_standingSet
set_option maxRecDepth 20000 in
theorem ggX2_why_X2_bitOf : GoodIn wsX2_why wsX2_bitOf := goodIn_r _ [27] (by decide +kernel) (by decide +kernel)
set_option maxRecDepth 20000 in
theorem gX2_why_X2_bitOf : GoodIn wsX2_why (va_wsS RX2 73 yX2_bitOf wsX2_bitOf) := goodIn_app (goodIn_of _ (by decide +kernel)) ggX2_why_X2_bitOf
set_option maxRecDepth 20000 in
theorem ggX2_why_X0_firstRuleBringing : GoodIn wsX2_why wsX0_firstRuleBringing := goodIn_r _ [45, 24, 25, 26, 6, 27, 28, 29, 30, 16, 31, 32, 33, 55, 56, 57, 58, 59] (by decide +kernel) (by decide +kernel)
set_option maxRecDepth 20000 in
theorem gX2_why_X0_firstRuleBringing_n104 : GoodIn wsX2_why (wsX0_firstRuleBringing) := ggX2_why_X0_firstRuleBringing
set_option maxRecDepth 20000 in
theorem ggX2_why_X0_nextRound : GoodIn wsX2_why wsX0_nextRound := goodIn_r _ [41, 24, 25, 26, 6, 27, 28, 29, 30, 16, 31, 32, 33, 55, 56, 57, 58, 59] (by decide +kernel) (by decide +kernel)
set_option maxRecDepth 20000 in
theorem gX2_why_X0_nextRound_n108 : GoodIn wsX2_why (wsX0_nextRound) := ggX2_why_X0_nextRound
theorem dX2_why_0 : decode cX2_why 0 = .ok (.iload_n 1, 1) := by decide +kernel
theorem dX2_why_1 : decode cX2_why 1 = .ok (.ifCond .lt 17, 3) := by decide +kernel
theorem dX2_why_4 : decode cX2_why 4 = .ok (.iload_n 2, 1) := by decide +kernel
theorem dX2_why_5 : decode cX2_why 5 = .ok (.invokestatic 84, 3) := by decide +kernel
theorem dX2_why_8 : decode cX2_why 8 = .ok (.ifCond .eq 10, 3) := by decide +kernel
theorem dX2_why_11 : decode cX2_why 11 = .ok (.iload_n 3, 1) := by decide +kernel
theorem dX2_why_12 : decode cX2_why 12 = .ok (.invokestatic 77, 3) := by decide +kernel
theorem dX2_why_15 : decode cX2_why 15 = .ok (.ifCond .ne 5, 3) := by decide +kernel
theorem dX2_why_18 : decode cX2_why 18 = .ok (.iconst (-1), 1) := by decide +kernel
theorem dX2_why_19 : decode cX2_why 19 = .ok (.ireturn, 1) := by decide +kernel
theorem dX2_why_20 : decode cX2_why 20 = .ok (.aload_n 0, 1) := by decide +kernel
theorem dX2_why_21 : decode cX2_why 21 = .ok (.iload_n 1, 1) := by decide +kernel
theorem dX2_why_22 : decode cX2_why 22 = .ok (.invokevirtual 91, 3) := by decide +kernel
theorem dX2_why_25 : decode cX2_why 25 = .ok (.istore 4, 2) := by decide +kernel
theorem dX2_why_27 : decode cX2_why 27 = .ok (.iload 4, 2) := by decide +kernel
theorem dX2_why_29 : decode cX2_why 29 = .ok (.bipush (-9), 2) := by decide +kernel
theorem dX2_why_31 : decode cX2_why 31 = .ok (.if_icmp .eq 12, 3) := by decide +kernel
theorem dX2_why_34 : decode cX2_why 34 = .ok (.iload 4, 2) := by decide +kernel
theorem dX2_why_36 : decode cX2_why 36 = .ok (.iload_n 2, 1) := by decide +kernel
theorem dX2_why_37 : decode cX2_why 37 = .ok (.invokestatic 73, 3) := by decide +kernel
theorem dX2_why_40 : decode cX2_why 40 = .ok (.ifCond .ne 6, 3) := by decide +kernel
theorem dX2_why_43 : decode cX2_why 43 = .ok (.bipush (-9), 2) := by decide +kernel
theorem dX2_why_45 : decode cX2_why 45 = .ok (.ireturn, 1) := by decide +kernel
theorem dX2_why_46 : decode cX2_why 46 = .ok (.aload_n 0, 1) := by decide +kernel
theorem dX2_why_47 : decode cX2_why 47 = .ok (.getfield 54, 3) := by decide +kernel
theorem dX2_why_50 : decode cX2_why 50 = .ok (.aload_n 0, 1) := by decide +kernel
theorem dX2_why_51 : decode cX2_why 51 = .ok (.getfield 19, 3) := by decide +kernel
theorem dX2_why_54 : decode cX2_why 54 = .ok (.getfield 101, 3) := by decide +kernel
theorem dX2_why_57 : decode cX2_why 57 = .ok (.iload 4, 2) := by decide +kernel
theorem dX2_why_59 : decode cX2_why 59 = .ok (.iand, 1) := by decide +kernel
theorem dX2_why_60 : decode cX2_why 60 = .ok (.ior, 1) := by decide +kernel
theorem dX2_why_61 : decode cX2_why 61 = .ok (.istore 5, 2) := by decide +kernel
theorem dX2_why_63 : decode cX2_why 63 = .ok (.iload 5, 2) := by decide +kernel
theorem dX2_why_65 : decode cX2_why 65 = .ok (.iload_n 2, 1) := by decide +kernel
theorem dX2_why_66 : decode cX2_why 66 = .ok (.invokestatic 73, 3) := by decide +kernel
theorem dX2_why_69 : decode cX2_why 69 = .ok (.iconst 1, 1) := by decide +kernel
theorem dX2_why_70 : decode cX2_why 70 = .ok (.if_icmp .ne 14, 3) := by decide +kernel
theorem dX2_why_73 : decode cX2_why 73 = .ok (.iload_n 3, 1) := by decide +kernel
theorem dX2_why_74 : decode cX2_why 74 = .ok (.ifCond .ne 7, 3) := by decide +kernel
theorem dX2_why_77 : decode cX2_why 77 = .ok (.iconst 0, 1) := by decide +kernel
theorem dX2_why_78 : decode cX2_why 78 = .ok (.goto 5, 3) := by decide +kernel
theorem dX2_why_81 : decode cX2_why 81 = .ok (.bipush (-9), 2) := by decide +kernel
theorem dX2_why_83 : decode cX2_why 83 = .ok (.ireturn, 1) := by decide +kernel
theorem dX2_why_84 : decode cX2_why 84 = .ok (.iconst 1, 1) := by decide +kernel
theorem dX2_why_85 : decode cX2_why 85 = .ok (.istore 6, 2) := by decide +kernel
theorem dX2_why_87 : decode cX2_why 87 = .ok (.iload 6, 2) := by decide +kernel
theorem dX2_why_89 : decode cX2_why 89 = .ok (.bipush 8, 2) := by decide +kernel
theorem dX2_why_91 : decode cX2_why 91 = .ok (.if_icmp .gt 63, 3) := by decide +kernel
theorem dX2_why_94 : decode cX2_why 94 = .ok (.aload_n 0, 1) := by decide +kernel
theorem dX2_why_95 : decode cX2_why 95 = .ok (.getfield 19, 3) := by decide +kernel
theorem dX2_why_98 : decode cX2_why 98 = .ok (.iload_n 2, 1) := by decide +kernel
theorem dX2_why_99 : decode cX2_why 99 = .ok (.iload 5, 2) := by decide +kernel
theorem dX2_why_101 : decode cX2_why 101 = .ok (.aload_n 0, 1) := by decide +kernel
theorem dX2_why_102 : decode cX2_why 102 = .ok (.getfield 51, 3) := by decide +kernel
theorem dX2_why_105 : decode cX2_why 105 = .ok (.iload 4, 2) := by decide +kernel
theorem dX2_why_107 : decode cX2_why 107 = .ok (.invokevirtual 104, 3) := by decide +kernel
theorem dX2_why_110 : decode cX2_why 110 = .ok (.istore 7, 2) := by decide +kernel
theorem dX2_why_112 : decode cX2_why 112 = .ok (.iload 7, 2) := by decide +kernel
theorem dX2_why_114 : decode cX2_why 114 = .ok (.bipush (-9), 2) := by decide +kernel
theorem dX2_why_116 : decode cX2_why 116 = .ok (.if_icmp .eq 15, 3) := by decide +kernel
theorem dX2_why_119 : decode cX2_why 119 = .ok (.iload_n 3, 1) := by decide +kernel
theorem dX2_why_120 : decode cX2_why 120 = .ok (.ifCond .ne 8, 3) := by decide +kernel
theorem dX2_why_123 : decode cX2_why 123 = .ok (.iload 6, 2) := by decide +kernel
theorem dX2_why_125 : decode cX2_why 125 = .ok (.goto 5, 3) := by decide +kernel
theorem dX2_why_128 : decode cX2_why 128 = .ok (.iload 7, 2) := by decide +kernel
theorem dX2_why_130 : decode cX2_why 130 = .ok (.ireturn, 1) := by decide +kernel
theorem dX2_why_131 : decode cX2_why 131 = .ok (.aload_n 0, 1) := by decide +kernel
theorem dX2_why_132 : decode cX2_why 132 = .ok (.getfield 19, 3) := by decide +kernel
theorem dX2_why_135 : decode cX2_why 135 = .ok (.iload 5, 2) := by decide +kernel
theorem dX2_why_137 : decode cX2_why 137 = .ok (.aload_n 0, 1) := by decide +kernel
theorem dX2_why_138 : decode cX2_why 138 = .ok (.getfield 51, 3) := by decide +kernel
theorem dX2_why_141 : decode cX2_why 141 = .ok (.iload 4, 2) := by decide +kernel
theorem dX2_why_143 : decode cX2_why 143 = .ok (.invokevirtual 108, 3) := by decide +kernel
theorem dX2_why_146 : decode cX2_why 146 = .ok (.istore 5, 2) := by decide +kernel
theorem dX2_why_148 : decode cX2_why 148 = .ok (.iinc 6 1, 3) := by decide +kernel
theorem dX2_why_151 : decode cX2_why 151 = .ok (.goto (-64), 3) := by decide +kernel
theorem dX2_why_154 : decode cX2_why 154 = .ok (.bipush (-9), 2) := by decide +kernel
theorem dX2_why_156 : decode cX2_why 156 = .ok (.ireturn, 1) := by decide +kernel
set_option maxRecDepth 20000 in
theorem ggX2_hangs_X2_isBit : GoodIn wsX2_hangs wsX2_isBit := goodIn_r _ [6] (by decide +kernel) (by decide +kernel)
set_option maxRecDepth 20000 in
theorem gX2_hangs_X2_isBit : GoodIn wsX2_hangs (va_wsS RX2 77 yX2_isBit wsX2_isBit) := goodIn_app (goodIn_of _ (by decide +kernel)) ggX2_hangs_X2_isBit
set_option maxRecDepth 20000 in
theorem ggX2_hangs_X0_hangsByIf : GoodIn wsX2_hangs wsX0_hangsByIf := goodIn_r _ [10, 11, 12, 13, 8, 14, 15, 16, 17, 18, 19, 20, 21, 22, 5, 23, 41, 42, 43, 44, 45] (by decide +kernel) (by decide +kernel)
set_option maxRecDepth 20000 in
theorem gX2_hangs_X0_hangsByIf_n111 : GoodIn wsX2_hangs (wsX0_hangsByIf) := ggX2_hangs_X0_hangsByIf
set_option maxRecDepth 20000 in
theorem ggX2_hangs_X0_isTangled : GoodIn wsX2_hangs wsX0_isTangled := goodIn_r _ [26, 11, 12, 13, 8, 14, 15, 16, 17, 18, 19, 20, 21, 22, 5, 23, 27, 28, 29, 30, 31, 41, 42, 43, 44, 45] (by decide +kernel) (by decide +kernel)
set_option maxRecDepth 20000 in
theorem gX2_hangs_X0_isTangled_n115 : GoodIn wsX2_hangs (wsX0_isTangled) := ggX2_hangs_X0_isTangled
theorem dX2_hangs_0 : decode cX2_hangs 0 = .ok (.iload_n 1, 1) := by decide +kernel
theorem dX2_hangs_1 : decode cX2_hangs 1 = .ok (.invokestatic 77, 3) := by decide +kernel
theorem dX2_hangs_4 : decode cX2_hangs 4 = .ok (.ifCond .ne 5, 3) := by decide +kernel
theorem dX2_hangs_7 : decode cX2_hangs 7 = .ok (.iconst (-1), 1) := by decide +kernel
theorem dX2_hangs_8 : decode cX2_hangs 8 = .ok (.ireturn, 1) := by decide +kernel
theorem dX2_hangs_9 : decode cX2_hangs 9 = .ok (.iconst 0, 1) := by decide +kernel
theorem dX2_hangs_10 : decode cX2_hangs 10 = .ok (.istore_n 2, 1) := by decide +kernel
theorem dX2_hangs_11 : decode cX2_hangs 11 = .ok (.iconst 0, 1) := by decide +kernel
theorem dX2_hangs_12 : decode cX2_hangs 12 = .ok (.istore_n 3, 1) := by decide +kernel
theorem dX2_hangs_13 : decode cX2_hangs 13 = .ok (.iload_n 3, 1) := by decide +kernel
theorem dX2_hangs_14 : decode cX2_hangs 14 = .ok (.bipush 8, 2) := by decide +kernel
theorem dX2_hangs_16 : decode cX2_hangs 16 = .ok (.if_icmp .ge 53, 3) := by decide +kernel
theorem dX2_hangs_19 : decode cX2_hangs 19 = .ok (.iload_n 1, 1) := by decide +kernel
theorem dX2_hangs_20 : decode cX2_hangs 20 = .ok (.ifCond .ne 18, 3) := by decide +kernel
theorem dX2_hangs_23 : decode cX2_hangs 23 = .ok (.aload_n 0, 1) := by decide +kernel
theorem dX2_hangs_24 : decode cX2_hangs 24 = .ok (.getfield 19, 3) := by decide +kernel
theorem dX2_hangs_27 : decode cX2_hangs 27 = .ok (.iload_n 3, 1) := by decide +kernel
theorem dX2_hangs_28 : decode cX2_hangs 28 = .ok (.aload_n 0, 1) := by decide +kernel
theorem dX2_hangs_29 : decode cX2_hangs 29 = .ok (.getfield 51, 3) := by decide +kernel
theorem dX2_hangs_32 : decode cX2_hangs 32 = .ok (.invokevirtual 111, 3) := by decide +kernel
theorem dX2_hangs_35 : decode cX2_hangs 35 = .ok (.goto 15, 3) := by decide +kernel
theorem dX2_hangs_38 : decode cX2_hangs 38 = .ok (.aload_n 0, 1) := by decide +kernel
theorem dX2_hangs_39 : decode cX2_hangs 39 = .ok (.getfield 19, 3) := by decide +kernel
theorem dX2_hangs_42 : decode cX2_hangs 42 = .ok (.iload_n 3, 1) := by decide +kernel
theorem dX2_hangs_43 : decode cX2_hangs 43 = .ok (.aload_n 0, 1) := by decide +kernel
theorem dX2_hangs_44 : decode cX2_hangs 44 = .ok (.getfield 51, 3) := by decide +kernel
theorem dX2_hangs_47 : decode cX2_hangs 47 = .ok (.invokevirtual 115, 3) := by decide +kernel
theorem dX2_hangs_50 : decode cX2_hangs 50 = .ok (.istore 4, 2) := by decide +kernel
theorem dX2_hangs_52 : decode cX2_hangs 52 = .ok (.iload 4, 2) := by decide +kernel
theorem dX2_hangs_54 : decode cX2_hangs 54 = .ok (.ifCond .eq 9, 3) := by decide +kernel
theorem dX2_hangs_57 : decode cX2_hangs 57 = .ok (.iload_n 2, 1) := by decide +kernel
theorem dX2_hangs_58 : decode cX2_hangs 58 = .ok (.iconst 1, 1) := by decide +kernel
theorem dX2_hangs_59 : decode cX2_hangs 59 = .ok (.iload_n 3, 1) := by decide +kernel
theorem dX2_hangs_60 : decode cX2_hangs 60 = .ok (.ishl, 1) := by decide +kernel
theorem dX2_hangs_61 : decode cX2_hangs 61 = .ok (.ior, 1) := by decide +kernel
theorem dX2_hangs_62 : decode cX2_hangs 62 = .ok (.istore_n 2, 1) := by decide +kernel
theorem dX2_hangs_63 : decode cX2_hangs 63 = .ok (.iinc 3 1, 3) := by decide +kernel
theorem dX2_hangs_66 : decode cX2_hangs 66 = .ok (.goto (-53), 3) := by decide +kernel
theorem dX2_hangs_69 : decode cX2_hangs 69 = .ok (.iload_n 2, 1) := by decide +kernel
theorem dX2_hangs_70 : decode cX2_hangs 70 = .ok (.ireturn, 1) := by decide +kernel
set_option maxRecDepth 20000 in
theorem ggX2_explains_X2_isSentence : GoodIn wsX2_explains wsX2_isSentence := goodIn_r _ [5] (by decide +kernel) (by decide +kernel)
set_option maxRecDepth 20000 in
theorem gX2_explains_X2_isSentence : GoodIn wsX2_explains (va_wsS RX2 84 yX2_isSentence wsX2_isSentence) := goodIn_app (goodIn_of _ (by decide +kernel)) ggX2_explains_X2_isSentence
set_option maxRecDepth 20000 in
theorem ggX2_explains_X2_isSet : GoodIn wsX2_explains wsX2_isSet := goodIn_r _ [8] (by decide +kernel) (by decide +kernel)
end
section
set_option maxRecDepth 20000 in
theorem gX2_explains_X2_isSet : GoodIn wsX2_explains (va_wsS RX2 95 yX2_isSet wsX2_isSet) := goodIn_app (goodIn_of _ (by decide +kernel)) ggX2_explains_X2_isSet
set_option maxRecDepth 20000 in
theorem ggX2_explains_J6_bitCount_0f7a4 : GoodIn wsX2_explains wsJ6_bitCount_0f7a4 := goodIn_r _ [12, 13, 14, 15] (by decide +kernel) (by decide +kernel)
set_option maxRecDepth 20000 in
theorem gX2_explains_J6_bitCount_0f7a4 : GoodIn wsX2_explains (va_wsS RX2 118 yJ6_bitCount_0f7a4 wsJ6_bitCount_0f7a4) := goodIn_app (goodIn_of _ (by decide +kernel)) ggX2_explains_J6_bitCount_0f7a4
set_option maxRecDepth 20000 in
theorem ggX2_explains_X2_standsWith : GoodIn wsX2_explains wsX2_standsWith := goodIn_r _ [19, 20, 21, 22, 23, 24, 25, 26, 27, 28, 29, 30, 31, 32, 33, 4, 34, 35, 36, 37, 38, 39, 40, 41, 42, 43, 44, 45, 46, 47, 48, 49, 50, 51, 52, 53, 54, 55, 56, 57, 58, 59, 60, 61, 62] (by decide +kernel) (by decide +kernel)
set_option maxRecDepth 20000 in
theorem gX2_explains_X2_standsWith : GoodIn wsX2_explains (wsV RX2 123 RX2 yX2_standsWith wsX2_standsWith) := goodIn_app (goodIn_of _ (by decide +kernel)) ggX2_explains_X2_standsWith
theorem dX2_explains_0 : decode cX2_explains 0 = .ok (.iload_n 1, 1) := by decide +kernel
theorem dX2_explains_1 : decode cX2_explains 1 = .ok (.invokestatic 84, 3) := by decide +kernel
theorem dX2_explains_4 : decode cX2_explains 4 = .ok (.ifCond .eq 10, 3) := by decide +kernel
theorem dX2_explains_7 : decode cX2_explains 7 = .ok (.iload_n 2, 1) := by decide +kernel
theorem dX2_explains_8 : decode cX2_explains 8 = .ok (.invokestatic 95, 3) := by decide +kernel
theorem dX2_explains_11 : decode cX2_explains 11 = .ok (.ifCond .ne 5, 3) := by decide +kernel
theorem dX2_explains_14 : decode cX2_explains 14 = .ok (.iconst (-1), 1) := by decide +kernel
theorem dX2_explains_15 : decode cX2_explains 15 = .ok (.ireturn, 1) := by decide +kernel
theorem dX2_explains_16 : decode cX2_explains 16 = .ok (.iconst 0, 1) := by decide +kernel
theorem dX2_explains_17 : decode cX2_explains 17 = .ok (.istore_n 3, 1) := by decide +kernel
theorem dX2_explains_18 : decode cX2_explains 18 = .ok (.iload_n 3, 1) := by decide +kernel
theorem dX2_explains_19 : decode cX2_explains 19 = .ok (.iconst 3, 1) := by decide +kernel
theorem dX2_explains_20 : decode cX2_explains 20 = .ok (.if_icmp .gt 72, 3) := by decide +kernel
theorem dX2_explains_23 : decode cX2_explains 23 = .ok (.iconst 0, 1) := by decide +kernel
theorem dX2_explains_24 : decode cX2_explains 24 = .ok (.istore 4, 2) := by decide +kernel
theorem dX2_explains_26 : decode cX2_explains 26 = .ok (.iload 4, 2) := by decide +kernel
theorem dX2_explains_28 : decode cX2_explains 28 = .ok (.iload_n 2, 1) := by decide +kernel
theorem dX2_explains_29 : decode cX2_explains 29 = .ok (.if_icmp .gt 57, 3) := by decide +kernel
theorem dX2_explains_32 : decode cX2_explains 32 = .ok (.iload 4, 2) := by decide +kernel
theorem dX2_explains_34 : decode cX2_explains 34 = .ok (.iload_n 2, 1) := by decide +kernel
theorem dX2_explains_35 : decode cX2_explains 35 = .ok (.iconst (-1), 1) := by decide +kernel
theorem dX2_explains_36 : decode cX2_explains 36 = .ok (.ixor, 1) := by decide +kernel
theorem dX2_explains_37 : decode cX2_explains 37 = .ok (.iand, 1) := by decide +kernel
theorem dX2_explains_38 : decode cX2_explains 38 = .ok (.ifCond .ne 16, 3) := by decide +kernel
theorem dX2_explains_41 : decode cX2_explains 41 = .ok (.iload 4, 2) := by decide +kernel
theorem dX2_explains_43 : decode cX2_explains 43 = .ok (.invokestatic 118, 3) := by decide +kernel
theorem dX2_explains_46 : decode cX2_explains 46 = .ok (.iload_n 3, 1) := by decide +kernel
theorem dX2_explains_47 : decode cX2_explains 47 = .ok (.if_icmp .ne 7, 3) := by decide +kernel
theorem dX2_explains_50 : decode cX2_explains 50 = .ok (.iconst 1, 1) := by decide +kernel
theorem dX2_explains_51 : decode cX2_explains 51 = .ok (.goto 4, 3) := by decide +kernel
theorem dX2_explains_54 : decode cX2_explains 54 = .ok (.iconst 0, 1) := by decide +kernel
theorem dX2_explains_55 : decode cX2_explains 55 = .ok (.istore 5, 2) := by decide +kernel
theorem dX2_explains_57 : decode cX2_explains 57 = .ok (.iload 5, 2) := by decide +kernel
theorem dX2_explains_59 : decode cX2_explains 59 = .ok (.ifCond .eq 21, 3) := by decide +kernel
theorem dX2_explains_62 : decode cX2_explains 62 = .ok (.aload_n 0, 1) := by decide +kernel
theorem dX2_explains_63 : decode cX2_explains 63 = .ok (.iload_n 1, 1) := by decide +kernel
theorem dX2_explains_64 : decode cX2_explains 64 = .ok (.aload_n 0, 1) := by decide +kernel
theorem dX2_explains_65 : decode cX2_explains 65 = .ok (.getfield 54, 3) := by decide +kernel
theorem dX2_explains_68 : decode cX2_explains 68 = .ok (.iload 4, 2) := by decide +kernel
theorem dX2_explains_70 : decode cX2_explains 70 = .ok (.ior, 1) := by decide +kernel
theorem dX2_explains_71 : decode cX2_explains 71 = .ok (.invokevirtual 123, 3) := by decide +kernel
theorem dX2_explains_74 : decode cX2_explains 74 = .ok (.ifCond .eq 6, 3) := by decide +kernel
theorem dX2_explains_77 : decode cX2_explains 77 = .ok (.iload 4, 2) := by decide +kernel
theorem dX2_explains_79 : decode cX2_explains 79 = .ok (.ireturn, 1) := by decide +kernel
theorem dX2_explains_80 : decode cX2_explains 80 = .ok (.iinc 4 1, 3) := by decide +kernel
theorem dX2_explains_83 : decode cX2_explains 83 = .ok (.goto (-57), 3) := by decide +kernel
theorem dX2_explains_86 : decode cX2_explains 86 = .ok (.iinc 3 1, 3) := by decide +kernel
theorem dX2_explains_89 : decode cX2_explains 89 = .ok (.goto (-71), 3) := by decide +kernel
theorem dX2_explains_92 : decode cX2_explains 92 = .ok (.bipush (-9), 2) := by decide +kernel
theorem dX2_explains_94 : decode cX2_explains 94 = .ok (.ireturn, 1) := by decide +kernel
set_option maxRecDepth 20000 in
theorem ggX2_givesUp_X0_brokenBy : GoodIn wsX2_givesUp wsX0_brokenBy := goodIn_r _ [7, 8, 9, 10, 11, 12, 13, 14, 15, 5, 16, 17, 18, 51, 52, 53, 54, 55] (by decide +kernel) (by decide +kernel)
set_option maxRecDepth 20000 in
theorem gX2_givesUp_X0_brokenBy_n126 : GoodIn wsX2_givesUp (wsX0_brokenBy) := ggX2_givesUp_X0_brokenBy
set_option maxRecDepth 20000 in
theorem ggX2_givesUp_J6_bitCount_0f7a4 : GoodIn wsX2_givesUp wsJ6_bitCount_0f7a4 := goodIn_r _ [22, 23, 24, 25] (by decide +kernel) (by decide +kernel)
set_option maxRecDepth 20000 in
theorem gX2_givesUp_J6_bitCount_0f7a4 : GoodIn wsX2_givesUp (va_wsS RX2 118 yJ6_bitCount_0f7a4 wsJ6_bitCount_0f7a4) := goodIn_app (goodIn_of _ (by decide +kernel)) ggX2_givesUp_J6_bitCount_0f7a4
set_option maxRecDepth 20000 in
theorem ggX2_givesUp_X2_isBetter : GoodIn wsX2_givesUp wsX2_isBetter := goodIn_r _ [28, 19, 20, 21, 22, 23, 24, 25] (by decide +kernel) (by decide +kernel)
set_option maxRecDepth 20000 in
theorem gX2_givesUp_X2_isBetter : GoodIn wsX2_givesUp (va_wsS RX2 129 yX2_isBetter wsX2_isBetter) := goodIn_app (goodIn_of _ (by decide +kernel)) ggX2_givesUp_X2_isBetter
set_option maxRecDepth 20000 in
theorem ggX2_givesUp_X0_upholds : GoodIn wsX2_givesUp wsX0_upholds := goodIn_r _ [31, 32, 33, 4, 6, 5, 7, 8, 9, 10, 11, 12, 13, 14, 15, 16, 17, 18, 34, 35, 36, 37, 38, 39, 40, 41, 51, 52, 53, 54, 55] (by decide +kernel) (by decide +kernel)
set_option maxRecDepth 20000 in
theorem gX2_givesUp_X0_upholds_n87 : GoodIn wsX2_givesUp (wsX0_upholds) := ggX2_givesUp_X0_upholds
theorem dX2_givesUp_0 : decode cX2_givesUp 0 = .ok (.bipush (-9), 2) := by decide +kernel
theorem dX2_givesUp_2 : decode cX2_givesUp 2 = .ok (.istore_n 1, 1) := by decide +kernel
theorem dX2_givesUp_3 : decode cX2_givesUp 3 = .ok (.iconst 0, 1) := by decide +kernel
theorem dX2_givesUp_4 : decode cX2_givesUp 4 = .ok (.istore_n 2, 1) := by decide +kernel
theorem dX2_givesUp_5 : decode cX2_givesUp 5 = .ok (.iload_n 2, 1) := by decide +kernel
theorem dX2_givesUp_6 : decode cX2_givesUp 6 = .ok (.sipush 255, 3) := by decide +kernel
theorem dX2_givesUp_9 : decode cX2_givesUp 9 = .ok (.if_icmp .gt 75, 3) := by decide +kernel
theorem dX2_givesUp_12 : decode cX2_givesUp 12 = .ok (.aload_n 0, 1) := by decide +kernel
theorem dX2_givesUp_13 : decode cX2_givesUp 13 = .ok (.getfield 19, 3) := by decide +kernel
theorem dX2_givesUp_16 : decode cX2_givesUp 16 = .ok (.iload_n 2, 1) := by decide +kernel
theorem dX2_givesUp_17 : decode cX2_givesUp 17 = .ok (.aload_n 0, 1) := by decide +kernel
theorem dX2_givesUp_18 : decode cX2_givesUp 18 = .ok (.getfield 51, 3) := by decide +kernel
theorem dX2_givesUp_21 : decode cX2_givesUp 21 = .ok (.invokevirtual 126, 3) := by decide +kernel
theorem dX2_givesUp_24 : decode cX2_givesUp 24 = .ok (.istore_n 3, 1) := by decide +kernel
theorem dX2_givesUp_25 : decode cX2_givesUp 25 = .ok (.iload_n 3, 1) := by decide +kernel
theorem dX2_givesUp_26 : decode cX2_givesUp 26 = .ok (.invokestatic 118, 3) := by decide +kernel
theorem dX2_givesUp_29 : decode cX2_givesUp 29 = .ok (.iconst 3, 1) := by decide +kernel
theorem dX2_givesUp_30 : decode cX2_givesUp 30 = .ok (.if_icmp .gt 15, 3) := by decide +kernel
theorem dX2_givesUp_33 : decode cX2_givesUp 33 = .ok (.iload_n 3, 1) := by decide +kernel
theorem dX2_givesUp_34 : decode cX2_givesUp 34 = .ok (.iload_n 1, 1) := by decide +kernel
theorem dX2_givesUp_35 : decode cX2_givesUp 35 = .ok (.invokestatic 129, 3) := by decide +kernel
theorem dX2_givesUp_38 : decode cX2_givesUp 38 = .ok (.ifCond .eq 7, 3) := by decide +kernel
theorem dX2_givesUp_41 : decode cX2_givesUp 41 = .ok (.iconst 1, 1) := by decide +kernel
theorem dX2_givesUp_42 : decode cX2_givesUp 42 = .ok (.goto 4, 3) := by decide +kernel
theorem dX2_givesUp_45 : decode cX2_givesUp 45 = .ok (.iconst 0, 1) := by decide +kernel
theorem dX2_givesUp_46 : decode cX2_givesUp 46 = .ok (.istore 4, 2) := by decide +kernel
theorem dX2_givesUp_48 : decode cX2_givesUp 48 = .ok (.iload 4, 2) := by decide +kernel
theorem dX2_givesUp_50 : decode cX2_givesUp 50 = .ok (.ifCond .eq 28, 3) := by decide +kernel
theorem dX2_givesUp_53 : decode cX2_givesUp 53 = .ok (.aload_n 0, 1) := by decide +kernel
theorem dX2_givesUp_54 : decode cX2_givesUp 54 = .ok (.getfield 19, 3) := by decide +kernel
theorem dX2_givesUp_57 : decode cX2_givesUp 57 = .ok (.iload_n 2, 1) := by decide +kernel
theorem dX2_givesUp_58 : decode cX2_givesUp 58 = .ok (.aload_n 0, 1) := by decide +kernel
theorem dX2_givesUp_59 : decode cX2_givesUp 59 = .ok (.getfield 51, 3) := by decide +kernel
theorem dX2_givesUp_62 : decode cX2_givesUp 62 = .ok (.iload_n 3, 1) := by decide +kernel
theorem dX2_givesUp_63 : decode cX2_givesUp 63 = .ok (.iconst (-1), 1) := by decide +kernel
theorem dX2_givesUp_64 : decode cX2_givesUp 64 = .ok (.ixor, 1) := by decide +kernel
theorem dX2_givesUp_65 : decode cX2_givesUp 65 = .ok (.iand, 1) := by decide +kernel
theorem dX2_givesUp_66 : decode cX2_givesUp 66 = .ok (.aload_n 0, 1) := by decide +kernel
theorem dX2_givesUp_67 : decode cX2_givesUp 67 = .ok (.getfield 54, 3) := by decide +kernel
theorem dX2_givesUp_70 : decode cX2_givesUp 70 = .ok (.invokevirtual 87, 3) := by decide +kernel
theorem dX2_givesUp_73 : decode cX2_givesUp 73 = .ok (.ifCond .eq 5, 3) := by decide +kernel
theorem dX2_givesUp_76 : decode cX2_givesUp 76 = .ok (.iload_n 3, 1) := by decide +kernel
theorem dX2_givesUp_77 : decode cX2_givesUp 77 = .ok (.istore_n 1, 1) := by decide +kernel
theorem dX2_givesUp_78 : decode cX2_givesUp 78 = .ok (.iinc 2 1, 3) := by decide +kernel
theorem dX2_givesUp_81 : decode cX2_givesUp 81 = .ok (.goto (-76), 3) := by decide +kernel
theorem dX2_givesUp_84 : decode cX2_givesUp 84 = .ok (.iload_n 1, 1) := by decide +kernel
theorem dX2_givesUp_85 : decode cX2_givesUp 85 = .ok (.ireturn, 1) := by decide +kernel
set_option maxRecDepth 20000 in
theorem ggX2_idle_X2_isRule : GoodIn wsX2_idle wsX2_isRule := goodIn_r _ [7, 8, 44, 45, 46, 47, 48, 49, 50, 51, 52, 53, 54, 55, 56, 57] (by decide +kernel) (by decide +kernel)
set_option maxRecDepth 20000 in
theorem gX2_idle_X2_isRule : GoodIn wsX2_idle (wsV RX2 60 RX2 yX2_isRule wsX2_isRule) := goodIn_app (goodIn_of _ (by decide +kernel)) ggX2_idle_X2_isRule
set_option maxRecDepth 20000 in
theorem ggX2_idle_X2_bitOf : GoodIn wsX2_idle wsX2_bitOf := goodIn_r _ [11] (by decide +kernel) (by decide +kernel)
set_option maxRecDepth 20000 in
theorem gX2_idle_X2_bitOf : GoodIn wsX2_idle (va_wsS RX2 73 yX2_bitOf wsX2_bitOf) := goodIn_app (goodIn_of _ (by decide +kernel)) ggX2_idle_X2_bitOf
set_option maxRecDepth 20000 in
theorem ggX2_idle_X2_withBit : GoodIn wsX2_idle wsX2_withBit := goodIn_r _ [14] (by decide +kernel) (by decide +kernel)
set_option maxRecDepth 20000 in
theorem gX2_idle_X2_withBit : GoodIn wsX2_idle (va_wsS RX2 80 yX2_withBit wsX2_withBit) := goodIn_app (goodIn_of _ (by decide +kernel)) ggX2_idle_X2_withBit
set_option maxRecDepth 20000 in
theorem ggX2_idle_X2_sameSetsWith : GoodIn wsX2_idle wsX2_sameSetsWith := goodIn_r _ [18, 8, 1, 2, 19, 20, 21, 22, 23, 24, 25, 26, 27, 28, 29, 10, 6, 11, 30, 31, 32, 33, 34, 35, 36, 37, 38, 39, 40, 41, 42, 43, 44, 45, 46, 47, 48, 49, 50, 51, 52, 53, 54, 55, 56, 57] (by decide +kernel) (by decide +kernel)
set_option maxRecDepth 20000 in
theorem gX2_idle_X2_sameSetsWith : GoodIn wsX2_idle (wsV RX2 132 RX2 yX2_sameSetsWith wsX2_sameSetsWith) := goodIn_app (goodIn_of _ (by decide +kernel)) ggX2_idle_X2_sameSetsWith
theorem dX2_idle_0 : decode cX2_idle 0 = .ok (.aload_n 0, 1) := by decide +kernel
theorem dX2_idle_1 : decode cX2_idle 1 = .ok (.iload_n 1, 1) := by decide +kernel
theorem dX2_idle_2 : decode cX2_idle 2 = .ok (.invokevirtual 60, 3) := by decide +kernel
theorem dX2_idle_5 : decode cX2_idle 5 = .ok (.ifCond .ne 5, 3) := by decide +kernel
theorem dX2_idle_8 : decode cX2_idle 8 = .ok (.iconst (-1), 1) := by decide +kernel
theorem dX2_idle_9 : decode cX2_idle 9 = .ok (.ireturn, 1) := by decide +kernel
theorem dX2_idle_10 : decode cX2_idle 10 = .ok (.aload_n 0, 1) := by decide +kernel
theorem dX2_idle_11 : decode cX2_idle 11 = .ok (.getfield 51, 3) := by decide +kernel
theorem dX2_idle_14 : decode cX2_idle 14 = .ok (.iload_n 1, 1) := by decide +kernel
theorem dX2_idle_15 : decode cX2_idle 15 = .ok (.invokestatic 73, 3) := by decide +kernel
theorem dX2_idle_18 : decode cX2_idle 18 = .ok (.ifCond .ne 6, 3) := by decide +kernel
theorem dX2_idle_21 : decode cX2_idle 21 = .ok (.bipush (-2), 2) := by decide +kernel
theorem dX2_idle_23 : decode cX2_idle 23 = .ok (.ireturn, 1) := by decide +kernel
theorem dX2_idle_24 : decode cX2_idle 24 = .ok (.aload_n 0, 1) := by decide +kernel
theorem dX2_idle_25 : decode cX2_idle 25 = .ok (.aload_n 0, 1) := by decide +kernel
theorem dX2_idle_26 : decode cX2_idle 26 = .ok (.getfield 51, 3) := by decide +kernel
theorem dX2_idle_29 : decode cX2_idle 29 = .ok (.iload_n 1, 1) := by decide +kernel
theorem dX2_idle_30 : decode cX2_idle 30 = .ok (.iconst 0, 1) := by decide +kernel
theorem dX2_idle_31 : decode cX2_idle 31 = .ok (.invokestatic 80, 3) := by decide +kernel
theorem dX2_idle_34 : decode cX2_idle 34 = .ok (.aload_n 0, 1) := by decide +kernel
theorem dX2_idle_35 : decode cX2_idle 35 = .ok (.getfield 54, 3) := by decide +kernel
theorem dX2_idle_38 : decode cX2_idle 38 = .ok (.invokevirtual 132, 3) := by decide +kernel
theorem dX2_idle_41 : decode cX2_idle 41 = .ok (.ifCond .eq 7, 3) := by decide +kernel
theorem dX2_idle_44 : decode cX2_idle 44 = .ok (.iconst 1, 1) := by decide +kernel
theorem dX2_idle_45 : decode cX2_idle 45 = .ok (.goto 4, 3) := by decide +kernel
theorem dX2_idle_48 : decode cX2_idle 48 = .ok (.iconst 0, 1) := by decide +kernel
theorem dX2_idle_49 : decode cX2_idle 49 = .ok (.ireturn, 1) := by decide +kernel
set_option maxRecDepth 20000 in
theorem ggX2_alike_X2_isImage : GoodIn wsX2_alike wsX2_isImage := goodIn_r _ [7] (by decide +kernel) (by decide +kernel)
set_option maxRecDepth 20000 in
theorem gX2_alike_X2_isImage : GoodIn wsX2_alike (va_wsS RX2 135 yX2_isImage wsX2_isImage) := goodIn_app (goodIn_of _ (by decide +kernel)) ggX2_alike_X2_isImage
set_option maxRecDepth 20000 in
theorem ggX2_alike_X2_bitOf : GoodIn wsX2_alike wsX2_bitOf := goodIn_r _ [10] (by decide +kernel) (by decide +kernel)
set_option maxRecDepth 20000 in
theorem gX2_alike_X2_bitOf : GoodIn wsX2_alike (va_wsS RX2 73 yX2_bitOf wsX2_bitOf) := goodIn_app (goodIn_of _ (by decide +kernel)) ggX2_alike_X2_bitOf
set_option maxRecDepth 20000 in
theorem ggX2_alike_X2_sameSetsWith : GoodIn wsX2_alike wsX2_sameSetsWith := goodIn_r _ [14, 15, 16, 17, 18, 19, 20, 21, 22, 23, 24, 25, 26, 27, 28, 9, 6, 10, 29, 30, 31, 32, 33, 34, 35, 36, 37, 38, 39, 40, 41, 42, 43, 44, 45, 46, 47, 48, 49, 50, 51, 52, 53, 54, 55, 56] (by decide +kernel) (by decide +kernel)
set_option maxRecDepth 20000 in
theorem gX2_alike_X2_sameSetsWith : GoodIn wsX2_alike (wsV RX2 132 RX2 yX2_sameSetsWith wsX2_sameSetsWith) := goodIn_app (goodIn_of _ (by decide +kernel)) ggX2_alike_X2_sameSetsWith
theorem dX2_alike_0 : decode cX2_alike 0 = .ok (.iload_n 1, 1) := by decide +kernel
theorem dX2_alike_1 : decode cX2_alike 1 = .ok (.invokestatic 135, 3) := by decide +kernel
theorem dX2_alike_4 : decode cX2_alike 4 = .ok (.ifCond .ne 5, 3) := by decide +kernel
theorem dX2_alike_7 : decode cX2_alike 7 = .ok (.iconst (-1), 1) := by decide +kernel
theorem dX2_alike_8 : decode cX2_alike 8 = .ok (.ireturn, 1) := by decide +kernel
theorem dX2_alike_9 : decode cX2_alike 9 = .ok (.aload_n 0, 1) := by decide +kernel
theorem dX2_alike_10 : decode cX2_alike 10 = .ok (.getfield 57, 3) := by decide +kernel
theorem dX2_alike_13 : decode cX2_alike 13 = .ok (.iload_n 1, 1) := by decide +kernel
theorem dX2_alike_14 : decode cX2_alike 14 = .ok (.invokestatic 73, 3) := by decide +kernel
theorem dX2_alike_17 : decode cX2_alike 17 = .ok (.ifCond .ne 6, 3) := by decide +kernel
theorem dX2_alike_20 : decode cX2_alike 20 = .ok (.bipush (-2), 2) := by decide +kernel
theorem dX2_alike_22 : decode cX2_alike 22 = .ok (.ireturn, 1) := by decide +kernel
theorem dX2_alike_23 : decode cX2_alike 23 = .ok (.aload_n 0, 1) := by decide +kernel
theorem dX2_alike_24 : decode cX2_alike 24 = .ok (.aload_n 0, 1) := by decide +kernel
theorem dX2_alike_25 : decode cX2_alike 25 = .ok (.getfield 26, 3) := by decide +kernel
theorem dX2_alike_28 : decode cX2_alike 28 = .ok (.iload_n 1, 1) := by decide +kernel
theorem dX2_alike_29 : decode cX2_alike 29 = .ok (.iaload, 1) := by decide +kernel
theorem dX2_alike_30 : decode cX2_alike 30 = .ok (.aload_n 0, 1) := by decide +kernel
theorem dX2_alike_31 : decode cX2_alike 31 = .ok (.getfield 30, 3) := by decide +kernel
theorem dX2_alike_34 : decode cX2_alike 34 = .ok (.iload_n 1, 1) := by decide +kernel
theorem dX2_alike_35 : decode cX2_alike 35 = .ok (.iaload, 1) := by decide +kernel
theorem dX2_alike_36 : decode cX2_alike 36 = .ok (.invokevirtual 132, 3) := by decide +kernel
theorem dX2_alike_39 : decode cX2_alike 39 = .ok (.ifCond .eq 7, 3) := by decide +kernel
theorem dX2_alike_42 : decode cX2_alike 42 = .ok (.iconst 1, 1) := by decide +kernel
theorem dX2_alike_43 : decode cX2_alike 43 = .ok (.goto 4, 3) := by decide +kernel
theorem dX2_alike_46 : decode cX2_alike 46 = .ok (.iconst 0, 1) := by decide +kernel
theorem dX2_alike_47 : decode cX2_alike 47 = .ok (.ireturn, 1) := by decide +kernel
set_option maxRecDepth 20000 in
theorem ggX2_mark_X2_isRule : GoodIn wsX2_mark wsX2_isRule := goodIn_r _ [6, 7, 49, 50, 51, 52, 53, 54, 55, 56, 57, 58, 59, 60, 61, 62] (by decide +kernel) (by decide +kernel)
set_option maxRecDepth 20000 in
theorem gX2_mark_X2_isRule : GoodIn wsX2_mark (wsV RX2 60 RX2 yX2_isRule wsX2_isRule) := goodIn_app (goodIn_of _ (by decide +kernel)) ggX2_mark_X2_isRule
set_option maxRecDepth 20000 in
theorem ggX2_mark_X2_markOfRule : GoodIn wsX2_mark wsX2_markOfRule := goodIn_r _ [11, 12, 7, 13, 14, 15, 16, 17, 18, 19, 49, 50, 51, 52, 53, 54, 55, 56, 57, 58, 59, 60, 61, 62] (by decide +kernel) (by decide +kernel)
set_option maxRecDepth 20000 in
theorem gX2_mark_X2_markOfRule : GoodIn wsX2_mark (wsV RX2 139 RX2 yX2_markOfRule wsX2_markOfRule) := goodIn_app (goodIn_of _ (by decide +kernel)) ggX2_mark_X2_markOfRule
set_option maxRecDepth 20000 in
theorem ggX2_mark_X2_markOfLaw : GoodIn wsX2_mark wsX2_markOfLaw := goodIn_r _ [23, 12, 24, 8, 9, 10, 5, 11, 7, 13, 14, 15, 16, 17, 18, 19, 49, 50, 51, 52, 53, 54, 55, 56, 57, 58, 59, 60, 61, 62] (by decide +kernel) (by decide +kernel)
set_option maxRecDepth 20000 in
theorem gX2_mark_X2_markOfLaw : GoodIn wsX2_mark (wsV RX2 142 RX2 yX2_markOfLaw wsX2_markOfLaw) := goodIn_app (goodIn_of _ (by decide +kernel)) ggX2_mark_X2_markOfLaw
set_option maxRecDepth 20000 in
theorem ggX2_mark_X2_markOfHabit : GoodIn wsX2_mark wsX2_markOfHabit := goodIn_r _ [28, 12, 29, 7, 8, 9, 10, 5, 11, 13, 14, 15, 16, 17, 18, 19, 49, 50, 51, 52, 53, 54, 55, 56, 57, 58, 59, 60, 61, 62] (by decide +kernel) (by decide +kernel)
set_option maxRecDepth 20000 in
theorem gX2_mark_X2_markOfHabit : GoodIn wsX2_mark (wsV RX2 145 RX2 yX2_markOfHabit wsX2_markOfHabit) := goodIn_app (goodIn_of _ (by decide +kernel)) ggX2_mark_X2_markOfHabit
set_option maxRecDepth 20000 in
theorem ggX2_mark_X2_markOfDecree : GoodIn wsX2_mark wsX2_markOfDecree := goodIn_r _ [33, 12, 34, 20, 21, 22, 5, 23, 24, 8, 9, 10, 11, 7, 13, 14, 15, 16, 17, 18, 19, 49, 50, 51, 52, 53, 54, 55, 56, 57, 58, 59, 60, 61, 62] (by decide +kernel) (by decide +kernel)
set_option maxRecDepth 20000 in
theorem gX2_mark_X2_markOfDecree : GoodIn wsX2_mark (wsV RX2 148 RX2 yX2_markOfDecree wsX2_markOfDecree) := goodIn_app (goodIn_of _ (by decide +kernel)) ggX2_mark_X2_markOfDecree
set_option maxRecDepth 20000 in
theorem ggX2_mark_X2_markOfCustom : GoodIn wsX2_mark wsX2_markOfCustom := goodIn_r _ [38, 12, 39, 40, 25, 26, 27, 5, 28, 29, 7, 8, 9, 10, 11, 13, 14, 15, 16, 17, 18, 19, 41, 42, 43, 49, 50, 51, 52, 53, 54, 55, 56, 57, 58, 59, 60, 61, 62] (by decide +kernel) (by decide +kernel)
set_option maxRecDepth 20000 in
theorem gX2_mark_X2_markOfCustom : GoodIn wsX2_mark (wsV RX2 151 RX2 yX2_markOfCustom wsX2_markOfCustom) := goodIn_app (goodIn_of _ (by decide +kernel)) ggX2_mark_X2_markOfCustom
set_option maxRecDepth 20000 in
theorem ggX2_mark_X2_markOfOath : GoodIn wsX2_mark wsX2_markOfOath := goodIn_r _ [47, 12, 48, 7, 8, 9, 10, 5, 11, 13, 14, 15, 16, 17, 18, 19, 49, 50, 51, 52, 53, 54, 55, 56, 57, 58, 59, 60, 61, 62] (by decide +kernel) (by decide +kernel)
set_option maxRecDepth 20000 in
theorem gX2_mark_X2_markOfOath : GoodIn wsX2_mark (wsV RX2 154 RX2 yX2_markOfOath wsX2_markOfOath) := goodIn_app (goodIn_of _ (by decide +kernel)) ggX2_mark_X2_markOfOath
theorem dX2_mark_0 : decode cX2_mark 0 = .ok (.aload_n 0, 1) := by decide +kernel
theorem dX2_mark_1 : decode cX2_mark 1 = .ok (.iload_n 2, 1) := by decide +kernel
theorem dX2_mark_2 : decode cX2_mark 2 = .ok (.invokevirtual 60, 3) := by decide +kernel
theorem dX2_mark_5 : decode cX2_mark 5 = .ok (.ifCond .ne 6, 3) := by decide +kernel
theorem dX2_mark_8 : decode cX2_mark 8 = .ok (.ldc 138, 2) := by decide +kernel
theorem dX2_mark_10 : decode cX2_mark 10 = .ok (.ireturn, 1) := by decide +kernel
theorem dX2_mark_11 : decode cX2_mark 11 = .ok (.iload_n 1, 1) := by decide +kernel
theorem dX2_mark_12 : decode cX2_mark 12 = .ok (.tableswitch 76 0 5 #[40, 46, 52, 58, 64, 70], 40) := by decide +kernel
theorem dX2_mark_52 : decode cX2_mark 52 = .ok (.aload_n 0, 1) := by decide +kernel
theorem dX2_mark_53 : decode cX2_mark 53 = .ok (.iload_n 2, 1) := by decide +kernel
theorem dX2_mark_54 : decode cX2_mark 54 = .ok (.invokevirtual 139, 3) := by decide +kernel
theorem dX2_mark_57 : decode cX2_mark 57 = .ok (.ireturn, 1) := by decide +kernel
theorem dX2_mark_58 : decode cX2_mark 58 = .ok (.aload_n 0, 1) := by decide +kernel
theorem dX2_mark_59 : decode cX2_mark 59 = .ok (.iload_n 2, 1) := by decide +kernel
theorem dX2_mark_60 : decode cX2_mark 60 = .ok (.invokevirtual 142, 3) := by decide +kernel
theorem dX2_mark_63 : decode cX2_mark 63 = .ok (.ireturn, 1) := by decide +kernel
theorem dX2_mark_64 : decode cX2_mark 64 = .ok (.aload_n 0, 1) := by decide +kernel
theorem dX2_mark_65 : decode cX2_mark 65 = .ok (.iload_n 2, 1) := by decide +kernel
theorem dX2_mark_66 : decode cX2_mark 66 = .ok (.invokevirtual 145, 3) := by decide +kernel
theorem dX2_mark_69 : decode cX2_mark 69 = .ok (.ireturn, 1) := by decide +kernel
theorem dX2_mark_70 : decode cX2_mark 70 = .ok (.aload_n 0, 1) := by decide +kernel
theorem dX2_mark_71 : decode cX2_mark 71 = .ok (.iload_n 2, 1) := by decide +kernel
theorem dX2_mark_72 : decode cX2_mark 72 = .ok (.invokevirtual 148, 3) := by decide +kernel
theorem dX2_mark_75 : decode cX2_mark 75 = .ok (.ireturn, 1) := by decide +kernel
theorem dX2_mark_76 : decode cX2_mark 76 = .ok (.aload_n 0, 1) := by decide +kernel
theorem dX2_mark_77 : decode cX2_mark 77 = .ok (.iload_n 2, 1) := by decide +kernel
theorem dX2_mark_78 : decode cX2_mark 78 = .ok (.invokevirtual 151, 3) := by decide +kernel
theorem dX2_mark_81 : decode cX2_mark 81 = .ok (.ireturn, 1) := by decide +kernel
theorem dX2_mark_82 : decode cX2_mark 82 = .ok (.aload_n 0, 1) := by decide +kernel
theorem dX2_mark_83 : decode cX2_mark 83 = .ok (.iload_n 2, 1) := by decide +kernel
theorem dX2_mark_84 : decode cX2_mark 84 = .ok (.invokevirtual 154, 3) := by decide +kernel
theorem dX2_mark_87 : decode cX2_mark 87 = .ok (.ireturn, 1) := by decide +kernel
theorem dX2_mark_88 : decode cX2_mark 88 = .ok (.ldc 138, 2) := by decide +kernel
theorem dX2_mark_90 : decode cX2_mark 90 = .ok (.ireturn, 1) := by decide +kernel
set_option maxRecDepth 20000 in
theorem ggX2_keep_X2_isImage : GoodIn wsX2_keep wsX2_isImage := goodIn_r _ [9] (by decide +kernel) (by decide +kernel)
set_option maxRecDepth 20000 in
theorem gX2_keep_X2_isImage : GoodIn wsX2_keep (va_wsS RX2 135 yX2_isImage wsX2_isImage) := goodIn_app (goodIn_of _ (by decide +kernel)) ggX2_keep_X2_isImage
set_option maxRecDepth 20000 in
theorem ggX2_keep_J6_bitCount_0f7a4 : GoodIn wsX2_keep wsJ6_bitCount_0f7a4 := goodIn_r _ [13, 14, 15, 16] (by decide +kernel) (by decide +kernel)
set_option maxRecDepth 20000 in
theorem gX2_keep_J6_bitCount_0f7a4 : GoodIn wsX2_keep (va_wsS RX2 118 yJ6_bitCount_0f7a4 wsJ6_bitCount_0f7a4) := goodIn_app (goodIn_of _ (by decide +kernel)) ggX2_keep_J6_bitCount_0f7a4
theorem dX2_keep_0 : decode cX2_keep 0 = .ok (.iload_n 1, 1) := by decide +kernel
theorem dX2_keep_1 : decode cX2_keep 1 = .ok (.invokestatic 135, 3) := by decide +kernel
theorem dX2_keep_4 : decode cX2_keep 4 = .ok (.ifCond .ne 5, 3) := by decide +kernel
theorem dX2_keep_7 : decode cX2_keep 7 = .ok (.iconst (-1), 1) := by decide +kernel
theorem dX2_keep_8 : decode cX2_keep 8 = .ok (.ireturn, 1) := by decide +kernel
theorem dX2_keep_9 : decode cX2_keep 9 = .ok (.aload_n 0, 1) := by decide +kernel
theorem dX2_keep_10 : decode cX2_keep 10 = .ok (.getfield 26, 3) := by decide +kernel
theorem dX2_keep_13 : decode cX2_keep 13 = .ok (.iload_n 1, 1) := by decide +kernel
theorem dX2_keep_14 : decode cX2_keep 14 = .ok (.aload_n 0, 1) := by decide +kernel
theorem dX2_keep_15 : decode cX2_keep 15 = .ok (.getfield 51, 3) := by decide +kernel
theorem dX2_keep_18 : decode cX2_keep 18 = .ok (.iastore, 1) := by decide +kernel
theorem dX2_keep_19 : decode cX2_keep 19 = .ok (.aload_n 0, 1) := by decide +kernel
theorem dX2_keep_20 : decode cX2_keep 20 = .ok (.getfield 30, 3) := by decide +kernel
theorem dX2_keep_23 : decode cX2_keep 23 = .ok (.iload_n 1, 1) := by decide +kernel
theorem dX2_keep_24 : decode cX2_keep 24 = .ok (.aload_n 0, 1) := by decide +kernel
theorem dX2_keep_25 : decode cX2_keep 25 = .ok (.getfield 54, 3) := by decide +kernel
theorem dX2_keep_28 : decode cX2_keep 28 = .ok (.iastore, 1) := by decide +kernel
theorem dX2_keep_29 : decode cX2_keep 29 = .ok (.aload_n 0, 1) := by decide +kernel
theorem dX2_keep_30 : decode cX2_keep 30 = .ok (.dup, 1) := by decide +kernel
theorem dX2_keep_31 : decode cX2_keep 31 = .ok (.getfield 57, 3) := by decide +kernel
theorem dX2_keep_34 : decode cX2_keep 34 = .ok (.iconst 1, 1) := by decide +kernel
theorem dX2_keep_35 : decode cX2_keep 35 = .ok (.iload_n 1, 1) := by decide +kernel
theorem dX2_keep_36 : decode cX2_keep 36 = .ok (.ishl, 1) := by decide +kernel
theorem dX2_keep_37 : decode cX2_keep 37 = .ok (.ior, 1) := by decide +kernel
theorem dX2_keep_38 : decode cX2_keep 38 = .ok (.putfield 57, 3) := by decide +kernel
theorem dX2_keep_41 : decode cX2_keep 41 = .ok (.aload_n 0, 1) := by decide +kernel
theorem dX2_keep_42 : decode cX2_keep 42 = .ok (.getfield 51, 3) := by decide +kernel
theorem dX2_keep_45 : decode cX2_keep 45 = .ok (.invokestatic 118, 3) := by decide +kernel
theorem dX2_keep_48 : decode cX2_keep 48 = .ok (.ireturn, 1) := by decide +kernel
set_option maxRecDepth 20000 in
theorem ggX2_back_X2_isImage : GoodIn wsX2_back wsX2_isImage := goodIn_r _ [9] (by decide +kernel) (by decide +kernel)
set_option maxRecDepth 20000 in
theorem gX2_back_X2_isImage : GoodIn wsX2_back (va_wsS RX2 135 yX2_isImage wsX2_isImage) := goodIn_app (goodIn_of _ (by decide +kernel)) ggX2_back_X2_isImage
set_option maxRecDepth 20000 in
theorem ggX2_back_X2_bitOf : GoodIn wsX2_back wsX2_bitOf := goodIn_r _ [12] (by decide +kernel) (by decide +kernel)
set_option maxRecDepth 20000 in
theorem gX2_back_X2_bitOf : GoodIn wsX2_back (va_wsS RX2 73 yX2_bitOf wsX2_bitOf) := goodIn_app (goodIn_of _ (by decide +kernel)) ggX2_back_X2_bitOf
set_option maxRecDepth 20000 in
theorem ggX2_back_J6_bitCount_0f7a4 : GoodIn wsX2_back wsJ6_bitCount_0f7a4 := goodIn_r _ [16, 17, 18, 19] (by decide +kernel) (by decide +kernel)
set_option maxRecDepth 20000 in
theorem gX2_back_J6_bitCount_0f7a4 : GoodIn wsX2_back (va_wsS RX2 118 yJ6_bitCount_0f7a4 wsJ6_bitCount_0f7a4) := goodIn_app (goodIn_of _ (by decide +kernel)) ggX2_back_J6_bitCount_0f7a4
theorem dX2_back_0 : decode cX2_back 0 = .ok (.iload_n 1, 1) := by decide +kernel
theorem dX2_back_1 : decode cX2_back 1 = .ok (.invokestatic 135, 3) := by decide +kernel
theorem dX2_back_4 : decode cX2_back 4 = .ok (.ifCond .ne 5, 3) := by decide +kernel
theorem dX2_back_7 : decode cX2_back 7 = .ok (.iconst (-1), 1) := by decide +kernel
theorem dX2_back_8 : decode cX2_back 8 = .ok (.ireturn, 1) := by decide +kernel
theorem dX2_back_9 : decode cX2_back 9 = .ok (.aload_n 0, 1) := by decide +kernel
theorem dX2_back_10 : decode cX2_back 10 = .ok (.getfield 57, 3) := by decide +kernel
theorem dX2_back_13 : decode cX2_back 13 = .ok (.iload_n 1, 1) := by decide +kernel
theorem dX2_back_14 : decode cX2_back 14 = .ok (.invokestatic 73, 3) := by decide +kernel
theorem dX2_back_17 : decode cX2_back 17 = .ok (.ifCond .ne 6, 3) := by decide +kernel
theorem dX2_back_20 : decode cX2_back 20 = .ok (.bipush (-2), 2) := by decide +kernel
theorem dX2_back_22 : decode cX2_back 22 = .ok (.ireturn, 1) := by decide +kernel
theorem dX2_back_23 : decode cX2_back 23 = .ok (.aload_n 0, 1) := by decide +kernel
theorem dX2_back_24 : decode cX2_back 24 = .ok (.aload_n 0, 1) := by decide +kernel
theorem dX2_back_25 : decode cX2_back 25 = .ok (.getfield 26, 3) := by decide +kernel
theorem dX2_back_28 : decode cX2_back 28 = .ok (.iload_n 1, 1) := by decide +kernel
theorem dX2_back_29 : decode cX2_back 29 = .ok (.iaload, 1) := by decide +kernel
theorem dX2_back_30 : decode cX2_back 30 = .ok (.putfield 51, 3) := by decide +kernel
theorem dX2_back_33 : decode cX2_back 33 = .ok (.aload_n 0, 1) := by decide +kernel
theorem dX2_back_34 : decode cX2_back 34 = .ok (.aload_n 0, 1) := by decide +kernel
theorem dX2_back_35 : decode cX2_back 35 = .ok (.getfield 30, 3) := by decide +kernel
theorem dX2_back_38 : decode cX2_back 38 = .ok (.iload_n 1, 1) := by decide +kernel
theorem dX2_back_39 : decode cX2_back 39 = .ok (.iaload, 1) := by decide +kernel
theorem dX2_back_40 : decode cX2_back 40 = .ok (.putfield 54, 3) := by decide +kernel
theorem dX2_back_43 : decode cX2_back 43 = .ok (.aload_n 0, 1) := by decide +kernel
theorem dX2_back_44 : decode cX2_back 44 = .ok (.getfield 51, 3) := by decide +kernel
theorem dX2_back_47 : decode cX2_back 47 = .ok (.invokestatic 118, 3) := by decide +kernel
theorem dX2_back_50 : decode cX2_back 50 = .ok (.ireturn, 1) := by decide +kernel
set_option maxRecDepth 20000 in
theorem ggX2_count_J6_bitCount_0f7a4 : GoodIn wsX2_count wsJ6_bitCount_0f7a4 := goodIn_r _ [8, 9, 10, 11] (by decide +kernel) (by decide +kernel)
set_option maxRecDepth 20000 in
theorem gX2_count_J6_bitCount_0f7a4 : GoodIn wsX2_count (va_wsS RX2 118 yJ6_bitCount_0f7a4 wsJ6_bitCount_0f7a4) := goodIn_app (goodIn_of _ (by decide +kernel)) ggX2_count_J6_bitCount_0f7a4
theorem dX2_count_0 : decode cX2_count 0 = .ok (.iload_n 1, 1) := by decide +kernel
theorem dX2_count_1 : decode cX2_count 1 = .ok (.tableswitch 72 0 4 #[35, 43, 51, 59, 64], 35) := by decide +kernel
theorem dX2_count_36 : decode cX2_count 36 = .ok (.aload_n 0, 1) := by decide +kernel
theorem dX2_count_37 : decode cX2_count 37 = .ok (.getfield 19, 3) := by decide +kernel
theorem dX2_count_40 : decode cX2_count 40 = .ok (.getfield 48, 3) := by decide +kernel
theorem dX2_count_43 : decode cX2_count 43 = .ok (.ireturn, 1) := by decide +kernel
theorem dX2_count_44 : decode cX2_count 44 = .ok (.aload_n 0, 1) := by decide +kernel
theorem dX2_count_45 : decode cX2_count 45 = .ok (.getfield 51, 3) := by decide +kernel
theorem dX2_count_48 : decode cX2_count 48 = .ok (.invokestatic 118, 3) := by decide +kernel
theorem dX2_count_51 : decode cX2_count 51 = .ok (.ireturn, 1) := by decide +kernel
theorem dX2_count_52 : decode cX2_count 52 = .ok (.aload_n 0, 1) := by decide +kernel
theorem dX2_count_53 : decode cX2_count 53 = .ok (.getfield 19, 3) := by decide +kernel
theorem dX2_count_56 : decode cX2_count 56 = .ok (.getfield 101, 3) := by decide +kernel
theorem dX2_count_59 : decode cX2_count 59 = .ok (.ireturn, 1) := by decide +kernel
theorem dX2_count_60 : decode cX2_count 60 = .ok (.aload_n 0, 1) := by decide +kernel
theorem dX2_count_61 : decode cX2_count 61 = .ok (.getfield 54, 3) := by decide +kernel
theorem dX2_count_64 : decode cX2_count 64 = .ok (.ireturn, 1) := by decide +kernel
theorem dX2_count_65 : decode cX2_count 65 = .ok (.aload_n 0, 1) := by decide +kernel
theorem dX2_count_66 : decode cX2_count 66 = .ok (.getfield 10, 3) := by decide +kernel
theorem dX2_count_69 : decode cX2_count 69 = .ok (.getfield 33, 3) := by decide +kernel
theorem dX2_count_72 : decode cX2_count 72 = .ok (.ireturn, 1) := by decide +kernel
theorem dX2_count_73 : decode cX2_count 73 = .ok (.iconst (-1), 1) := by decide +kernel
theorem dX2_count_74 : decode cX2_count 74 = .ok (.ireturn, 1) := by decide +kernel
theorem dX2_trace_0 : decode cX2_trace 0 = .ok (.aload_n 0, 1) := by decide +kernel
theorem dX2_trace_1 : decode cX2_trace 1 = .ok (.getfield 157, 3) := by decide +kernel
theorem dX2_trace_4 : decode cX2_trace 4 = .ok (.lreturn, 1) := by decide +kernel
theorem dX2_isRule_0 : decode cX2_isRule 0 = .ok (.iload_n 1, 1) := by decide +kernel
theorem dX2_isRule_1 : decode cX2_isRule 1 = .ok (.ifCond .lt 18, 3) := by decide +kernel
theorem dX2_isRule_4 : decode cX2_isRule 4 = .ok (.iload_n 1, 1) := by decide +kernel
theorem dX2_isRule_5 : decode cX2_isRule 5 = .ok (.aload_n 0, 1) := by decide +kernel
theorem dX2_isRule_6 : decode cX2_isRule 6 = .ok (.getfield 19, 3) := by decide +kernel
theorem dX2_isRule_9 : decode cX2_isRule 9 = .ok (.getfield 48, 3) := by decide +kernel
theorem dX2_isRule_12 : decode cX2_isRule 12 = .ok (.if_icmp .ge 7, 3) := by decide +kernel
theorem dX2_isRule_15 : decode cX2_isRule 15 = .ok (.iconst 1, 1) := by decide +kernel
theorem dX2_isRule_16 : decode cX2_isRule 16 = .ok (.goto 4, 3) := by decide +kernel
theorem dX2_isRule_19 : decode cX2_isRule 19 = .ok (.iconst 0, 1) := by decide +kernel
theorem dX2_isRule_20 : decode cX2_isRule 20 = .ok (.ireturn, 1) := by decide +kernel
theorem dX2_isSet_0 : decode cX2_isSet 0 = .ok (.iload_n 0, 1) := by decide +kernel
theorem dX2_isSet_1 : decode cX2_isSet 1 = .ok (.ifCond .lt 14, 3) := by decide +kernel
theorem dX2_isSet_4 : decode cX2_isSet 4 = .ok (.iload_n 0, 1) := by decide +kernel
theorem dX2_isSet_5 : decode cX2_isSet 5 = .ok (.sipush 255, 3) := by decide +kernel
theorem dX2_isSet_8 : decode cX2_isSet 8 = .ok (.if_icmp .gt 7, 3) := by decide +kernel
theorem dX2_isSet_11 : decode cX2_isSet 11 = .ok (.iconst 1, 1) := by decide +kernel
theorem dX2_isSet_12 : decode cX2_isSet 12 = .ok (.goto 4, 3) := by decide +kernel
theorem dX2_isSet_15 : decode cX2_isSet 15 = .ok (.iconst 0, 1) := by decide +kernel
theorem dX2_isSet_16 : decode cX2_isSet 16 = .ok (.ireturn, 1) := by decide +kernel
theorem dX2_isImage_0 : decode cX2_isImage 0 = .ok (.iload_n 0, 1) := by decide +kernel
theorem dX2_isImage_1 : decode cX2_isImage 1 = .ok (.ifCond .lt 12, 3) := by decide +kernel
theorem dX2_isImage_4 : decode cX2_isImage 4 = .ok (.iload_n 0, 1) := by decide +kernel
theorem dX2_isImage_5 : decode cX2_isImage 5 = .ok (.iconst 2, 1) := by decide +kernel
theorem dX2_isImage_6 : decode cX2_isImage 6 = .ok (.if_icmp .ge 7, 3) := by decide +kernel
theorem dX2_isImage_9 : decode cX2_isImage 9 = .ok (.iconst 1, 1) := by decide +kernel
theorem dX2_isImage_10 : decode cX2_isImage 10 = .ok (.goto 4, 3) := by decide +kernel
theorem dX2_isImage_13 : decode cX2_isImage 13 = .ok (.iconst 0, 1) := by decide +kernel
theorem dX2_isImage_14 : decode cX2_isImage 14 = .ok (.ireturn, 1) := by decide +kernel
theorem dX2_isBit_0 : decode cX2_isBit 0 = .ok (.iload_n 0, 1) := by decide +kernel
theorem dX2_isBit_1 : decode cX2_isBit 1 = .ok (.ifCond .eq 8, 3) := by decide +kernel
theorem dX2_isBit_4 : decode cX2_isBit 4 = .ok (.iload_n 0, 1) := by decide +kernel
theorem dX2_isBit_5 : decode cX2_isBit 5 = .ok (.iconst 1, 1) := by decide +kernel
theorem dX2_isBit_6 : decode cX2_isBit 6 = .ok (.if_icmp .ne 7, 3) := by decide +kernel
theorem dX2_isBit_9 : decode cX2_isBit 9 = .ok (.iconst 1, 1) := by decide +kernel
theorem dX2_isBit_10 : decode cX2_isBit 10 = .ok (.goto 4, 3) := by decide +kernel
theorem dX2_isBit_13 : decode cX2_isBit 13 = .ok (.iconst 0, 1) := by decide +kernel
theorem dX2_isBit_14 : decode cX2_isBit 14 = .ok (.ireturn, 1) := by decide +kernel
theorem dX2_withBit_0 : decode cX2_withBit 0 = .ok (.iload_n 0, 1) := by decide +kernel
theorem dX2_withBit_1 : decode cX2_withBit 1 = .ok (.iconst 1, 1) := by decide +kernel
theorem dX2_withBit_2 : decode cX2_withBit 2 = .ok (.iload_n 1, 1) := by decide +kernel
theorem dX2_withBit_3 : decode cX2_withBit 3 = .ok (.ishl, 1) := by decide +kernel
theorem dX2_withBit_4 : decode cX2_withBit 4 = .ok (.iconst (-1), 1) := by decide +kernel
theorem dX2_withBit_5 : decode cX2_withBit 5 = .ok (.ixor, 1) := by decide +kernel
theorem dX2_withBit_6 : decode cX2_withBit 6 = .ok (.iand, 1) := by decide +kernel
theorem dX2_withBit_7 : decode cX2_withBit 7 = .ok (.iload_n 2, 1) := by decide +kernel
theorem dX2_withBit_8 : decode cX2_withBit 8 = .ok (.iload_n 1, 1) := by decide +kernel
theorem dX2_withBit_9 : decode cX2_withBit 9 = .ok (.ishl, 1) := by decide +kernel
theorem dX2_withBit_10 : decode cX2_withBit 10 = .ok (.ior, 1) := by decide +kernel
theorem dX2_withBit_11 : decode cX2_withBit 11 = .ok (.ireturn, 1) := by decide +kernel
set_option maxRecDepth 20000 in
theorem ggX2_isBetter_J6_bitCount_0f7a4 : GoodIn wsX2_isBetter wsJ6_bitCount_0f7a4 := goodIn_r _ [4, 5, 6, 7] (by decide +kernel) (by decide +kernel)
set_option maxRecDepth 20000 in
theorem gX2_isBetter_J6_bitCount_0f7a4 : GoodIn wsX2_isBetter (va_wsS RX2 118 yJ6_bitCount_0f7a4 wsJ6_bitCount_0f7a4) := goodIn_app (goodIn_of _ (by decide +kernel)) ggX2_isBetter_J6_bitCount_0f7a4
theorem dX2_isBetter_0 : decode cX2_isBetter 0 = .ok (.iload_n 1, 1) := by decide +kernel
theorem dX2_isBetter_1 : decode cX2_isBetter 1 = .ok (.bipush (-9), 2) := by decide +kernel
theorem dX2_isBetter_3 : decode cX2_isBetter 3 = .ok (.if_icmp .ne 5, 3) := by decide +kernel
theorem dX2_isBetter_6 : decode cX2_isBetter 6 = .ok (.iconst 1, 1) := by decide +kernel
theorem dX2_isBetter_7 : decode cX2_isBetter 7 = .ok (.ireturn, 1) := by decide +kernel
theorem dX2_isBetter_8 : decode cX2_isBetter 8 = .ok (.iload_n 0, 1) := by decide +kernel
theorem dX2_isBetter_9 : decode cX2_isBetter 9 = .ok (.invokestatic 118, 3) := by decide +kernel
theorem dX2_isBetter_12 : decode cX2_isBetter 12 = .ok (.iload_n 1, 1) := by decide +kernel
theorem dX2_isBetter_13 : decode cX2_isBetter 13 = .ok (.invokestatic 118, 3) := by decide +kernel
theorem dX2_isBetter_16 : decode cX2_isBetter 16 = .ok (.isub, 1) := by decide +kernel
theorem dX2_isBetter_17 : decode cX2_isBetter 17 = .ok (.istore_n 2, 1) := by decide +kernel
theorem dX2_isBetter_18 : decode cX2_isBetter 18 = .ok (.iload_n 2, 1) := by decide +kernel
theorem dX2_isBetter_19 : decode cX2_isBetter 19 = .ok (.ifCond .lt 12, 3) := by decide +kernel
theorem dX2_isBetter_22 : decode cX2_isBetter 22 = .ok (.iload_n 2, 1) := by decide +kernel
theorem dX2_isBetter_23 : decode cX2_isBetter 23 = .ok (.ifCond .ne 12, 3) := by decide +kernel
theorem dX2_isBetter_26 : decode cX2_isBetter 26 = .ok (.iload_n 0, 1) := by decide +kernel
theorem dX2_isBetter_27 : decode cX2_isBetter 27 = .ok (.iload_n 1, 1) := by decide +kernel
theorem dX2_isBetter_28 : decode cX2_isBetter 28 = .ok (.if_icmp .ge 7, 3) := by decide +kernel
theorem dX2_isBetter_31 : decode cX2_isBetter 31 = .ok (.iconst 1, 1) := by decide +kernel
theorem dX2_isBetter_32 : decode cX2_isBetter 32 = .ok (.goto 4, 3) := by decide +kernel
theorem dX2_isBetter_35 : decode cX2_isBetter 35 = .ok (.iconst 0, 1) := by decide +kernel
theorem dX2_isBetter_36 : decode cX2_isBetter 36 = .ok (.ireturn, 1) := by decide +kernel
set_option maxRecDepth 20000 in
theorem ggX2_standingSet_X0_upholds : GoodIn wsX2_standingSet wsX0_upholds := goodIn_r _ [7, 8, 9, 10, 11, 5, 12, 13, 14, 15, 16, 17, 18, 19, 20, 21, 22, 23, 24, 25, 26, 27, 28, 29, 30, 31, 41, 42, 43, 44, 45] (by decide +kernel) (by decide +kernel)
set_option maxRecDepth 20000 in
theorem gX2_standingSet_X0_upholds_n87 : GoodIn wsX2_standingSet (wsX0_upholds) := ggX2_standingSet_X0_upholds
theorem dX2_standingSet_0 : decode cX2_standingSet 0 = .ok (.iconst 0, 1) := by decide +kernel
theorem dX2_standingSet_1 : decode cX2_standingSet 1 = .ok (.istore_n 2, 1) := by decide +kernel
theorem dX2_standingSet_2 : decode cX2_standingSet 2 = .ok (.iconst 0, 1) := by decide +kernel
theorem dX2_standingSet_3 : decode cX2_standingSet 3 = .ok (.istore_n 3, 1) := by decide +kernel
theorem dX2_standingSet_4 : decode cX2_standingSet 4 = .ok (.iload_n 3, 1) := by decide +kernel
theorem dX2_standingSet_5 : decode cX2_standingSet 5 = .ok (.sipush 255, 3) := by decide +kernel
theorem dX2_standingSet_8 : decode cX2_standingSet 8 = .ok (.if_icmp .gt 38, 3) := by decide +kernel
theorem dX2_standingSet_11 : decode cX2_standingSet 11 = .ok (.aload_n 0, 1) := by decide +kernel
theorem dX2_standingSet_12 : decode cX2_standingSet 12 = .ok (.getfield 19, 3) := by decide +kernel
theorem dX2_standingSet_15 : decode cX2_standingSet 15 = .ok (.iload_n 3, 1) := by decide +kernel
theorem dX2_standingSet_16 : decode cX2_standingSet 16 = .ok (.aload_n 0, 1) := by decide +kernel
theorem dX2_standingSet_17 : decode cX2_standingSet 17 = .ok (.getfield 51, 3) := by decide +kernel
theorem dX2_standingSet_20 : decode cX2_standingSet 20 = .ok (.aload_n 0, 1) := by decide +kernel
theorem dX2_standingSet_21 : decode cX2_standingSet 21 = .ok (.getfield 54, 3) := by decide +kernel
theorem dX2_standingSet_24 : decode cX2_standingSet 24 = .ok (.invokevirtual 87, 3) := by decide +kernel
theorem dX2_standingSet_27 : decode cX2_standingSet 27 = .ok (.ifCond .eq 13, 3) := by decide +kernel
theorem dX2_standingSet_30 : decode cX2_standingSet 30 = .ok (.iload_n 2, 1) := by decide +kernel
theorem dX2_standingSet_31 : decode cX2_standingSet 31 = .ok (.iload_n 1, 1) := by decide +kernel
theorem dX2_standingSet_32 : decode cX2_standingSet 32 = .ok (.if_icmp .ne 5, 3) := by decide +kernel
theorem dX2_standingSet_35 : decode cX2_standingSet 35 = .ok (.iload_n 3, 1) := by decide +kernel
theorem dX2_standingSet_36 : decode cX2_standingSet 36 = .ok (.ireturn, 1) := by decide +kernel
theorem dX2_standingSet_37 : decode cX2_standingSet 37 = .ok (.iinc 2 1, 3) := by decide +kernel
theorem dX2_standingSet_40 : decode cX2_standingSet 40 = .ok (.iinc 3 1, 3) := by decide +kernel
theorem dX2_standingSet_43 : decode cX2_standingSet 43 = .ok (.goto (-39), 3) := by decide +kernel
theorem dX2_standingSet_46 : decode cX2_standingSet 46 = .ok (.bipush (-9), 2) := by decide +kernel
theorem dX2_standingSet_48 : decode cX2_standingSet 48 = .ok (.ireturn, 1) := by decide +kernel
set_option maxRecDepth 20000 in
theorem ggX2_standsWith_X0_upholds : GoodIn wsX2_standsWith wsX0_upholds := goodIn_r _ [6, 7, 8, 9, 10, 4, 11, 12, 13, 14, 15, 16, 17, 18, 19, 20, 21, 22, 23, 24, 25, 26, 27, 28, 29, 30, 40, 41, 42, 43, 44] (by decide +kernel) (by decide +kernel)
set_option maxRecDepth 20000 in
theorem gX2_standsWith_X0_upholds_n87 : GoodIn wsX2_standsWith (wsX0_upholds) := ggX2_standsWith_X0_upholds
theorem dX2_standsWith_0 : decode cX2_standsWith 0 = .ok (.iload_n 2, 1) := by decide +kernel
theorem dX2_standsWith_1 : decode cX2_standsWith 1 = .ok (.iconst 1, 1) := by decide +kernel
theorem dX2_standsWith_2 : decode cX2_standsWith 2 = .ok (.iload_n 1, 1) := by decide +kernel
theorem dX2_standsWith_3 : decode cX2_standsWith 3 = .ok (.ishl, 1) := by decide +kernel
theorem dX2_standsWith_4 : decode cX2_standsWith 4 = .ok (.ior, 1) := by decide +kernel
theorem dX2_standsWith_5 : decode cX2_standsWith 5 = .ok (.istore_n 3, 1) := by decide +kernel
theorem dX2_standsWith_6 : decode cX2_standsWith 6 = .ok (.iload_n 3, 1) := by decide +kernel
theorem dX2_standsWith_7 : decode cX2_standsWith 7 = .ok (.istore 4, 2) := by decide +kernel
theorem dX2_standsWith_9 : decode cX2_standsWith 9 = .ok (.iload 4, 2) := by decide +kernel
theorem dX2_standsWith_11 : decode cX2_standsWith 11 = .ok (.sipush 255, 3) := by decide +kernel
theorem dX2_standsWith_14 : decode cX2_standsWith 14 = .ok (.if_icmp .gt 33, 3) := by decide +kernel
theorem dX2_standsWith_17 : decode cX2_standsWith 17 = .ok (.aload_n 0, 1) := by decide +kernel
theorem dX2_standsWith_18 : decode cX2_standsWith 18 = .ok (.getfield 19, 3) := by decide +kernel
theorem dX2_standsWith_21 : decode cX2_standsWith 21 = .ok (.iload 4, 2) := by decide +kernel
theorem dX2_standsWith_23 : decode cX2_standsWith 23 = .ok (.aload_n 0, 1) := by decide +kernel
theorem dX2_standsWith_24 : decode cX2_standsWith 24 = .ok (.getfield 51, 3) := by decide +kernel
theorem dX2_standsWith_27 : decode cX2_standsWith 27 = .ok (.iload_n 2, 1) := by decide +kernel
theorem dX2_standsWith_28 : decode cX2_standsWith 28 = .ok (.invokevirtual 87, 3) := by decide +kernel
theorem dX2_standsWith_31 : decode cX2_standsWith 31 = .ok (.ifCond .eq 5, 3) := by decide +kernel
theorem dX2_standsWith_34 : decode cX2_standsWith 34 = .ok (.iconst 1, 1) := by decide +kernel
theorem dX2_standsWith_35 : decode cX2_standsWith 35 = .ok (.ireturn, 1) := by decide +kernel
theorem dX2_standsWith_36 : decode cX2_standsWith 36 = .ok (.iload 4, 2) := by decide +kernel
theorem dX2_standsWith_38 : decode cX2_standsWith 38 = .ok (.iconst 1, 1) := by decide +kernel
theorem dX2_standsWith_39 : decode cX2_standsWith 39 = .ok (.iadd, 1) := by decide +kernel
theorem dX2_standsWith_40 : decode cX2_standsWith 40 = .ok (.iload_n 3, 1) := by decide +kernel
theorem dX2_standsWith_41 : decode cX2_standsWith 41 = .ok (.ior, 1) := by decide +kernel
theorem dX2_standsWith_42 : decode cX2_standsWith 42 = .ok (.istore 4, 2) := by decide +kernel
theorem dX2_standsWith_44 : decode cX2_standsWith 44 = .ok (.goto (-35), 3) := by decide +kernel
theorem dX2_standsWith_47 : decode cX2_standsWith 47 = .ok (.iconst 0, 1) := by decide +kernel
theorem dX2_standsWith_48 : decode cX2_standsWith 48 = .ok (.ireturn, 1) := by decide +kernel
set_option maxRecDepth 20000 in
theorem ggX2_sameSetsWith_X0_upholds : GoodIn wsX2_sameSetsWith wsX0_upholds := goodIn_r _ [7, 8, 9, 10, 11, 5, 12, 13, 14, 15, 16, 17, 18, 19, 20, 21, 22, 23, 24, 25, 26, 27, 28, 29, 30, 31, 41, 42, 43, 44, 45] (by decide +kernel) (by decide +kernel)
set_option maxRecDepth 20000 in
theorem gX2_sameSetsWith_X0_upholds_n87 : GoodIn wsX2_sameSetsWith (wsX0_upholds) := ggX2_sameSetsWith_X0_upholds
theorem dX2_sameSetsWith_0 : decode cX2_sameSetsWith 0 = .ok (.iconst 0, 1) := by decide +kernel
theorem dX2_sameSetsWith_1 : decode cX2_sameSetsWith 1 = .ok (.istore_n 3, 1) := by decide +kernel
theorem dX2_sameSetsWith_2 : decode cX2_sameSetsWith 2 = .ok (.iload_n 3, 1) := by decide +kernel
theorem dX2_sameSetsWith_3 : decode cX2_sameSetsWith 3 = .ok (.sipush 255, 3) := by decide +kernel
theorem dX2_sameSetsWith_6 : decode cX2_sameSetsWith 6 = .ok (.if_icmp .gt 40, 3) := by decide +kernel
theorem dX2_sameSetsWith_9 : decode cX2_sameSetsWith 9 = .ok (.aload_n 0, 1) := by decide +kernel
theorem dX2_sameSetsWith_10 : decode cX2_sameSetsWith 10 = .ok (.getfield 19, 3) := by decide +kernel
theorem dX2_sameSetsWith_13 : decode cX2_sameSetsWith 13 = .ok (.iload_n 3, 1) := by decide +kernel
theorem dX2_sameSetsWith_14 : decode cX2_sameSetsWith 14 = .ok (.aload_n 0, 1) := by decide +kernel
theorem dX2_sameSetsWith_15 : decode cX2_sameSetsWith 15 = .ok (.getfield 51, 3) := by decide +kernel
theorem dX2_sameSetsWith_18 : decode cX2_sameSetsWith 18 = .ok (.aload_n 0, 1) := by decide +kernel
theorem dX2_sameSetsWith_19 : decode cX2_sameSetsWith 19 = .ok (.getfield 54, 3) := by decide +kernel
theorem dX2_sameSetsWith_22 : decode cX2_sameSetsWith 22 = .ok (.invokevirtual 87, 3) := by decide +kernel
theorem dX2_sameSetsWith_25 : decode cX2_sameSetsWith 25 = .ok (.aload_n 0, 1) := by decide +kernel
theorem dX2_sameSetsWith_26 : decode cX2_sameSetsWith 26 = .ok (.getfield 19, 3) := by decide +kernel
theorem dX2_sameSetsWith_29 : decode cX2_sameSetsWith 29 = .ok (.iload_n 3, 1) := by decide +kernel
theorem dX2_sameSetsWith_30 : decode cX2_sameSetsWith 30 = .ok (.iload_n 1, 1) := by decide +kernel
theorem dX2_sameSetsWith_31 : decode cX2_sameSetsWith 31 = .ok (.iload_n 2, 1) := by decide +kernel
theorem dX2_sameSetsWith_32 : decode cX2_sameSetsWith 32 = .ok (.invokevirtual 87, 3) := by decide +kernel
theorem dX2_sameSetsWith_35 : decode cX2_sameSetsWith 35 = .ok (.if_icmp .eq 5, 3) := by decide +kernel
theorem dX2_sameSetsWith_38 : decode cX2_sameSetsWith 38 = .ok (.iconst 0, 1) := by decide +kernel
theorem dX2_sameSetsWith_39 : decode cX2_sameSetsWith 39 = .ok (.ireturn, 1) := by decide +kernel
theorem dX2_sameSetsWith_40 : decode cX2_sameSetsWith 40 = .ok (.iinc 3 1, 3) := by decide +kernel
theorem dX2_sameSetsWith_43 : decode cX2_sameSetsWith 43 = .ok (.goto (-41), 3) := by decide +kernel
theorem dX2_sameSetsWith_46 : decode cX2_sameSetsWith 46 = .ok (.iconst 1, 1) := by decide +kernel
theorem dX2_sameSetsWith_47 : decode cX2_sameSetsWith 47 = .ok (.ireturn, 1) := by decide +kernel
set_option maxRecDepth 20000 in
theorem ggX2_markOfRule_J6_bitCount_0f7a4 : GoodIn wsX2_markOfRule wsJ6_bitCount_0f7a4 := goodIn_r _ [6, 7, 8, 9] (by decide +kernel) (by decide +kernel)
set_option maxRecDepth 20000 in
theorem gX2_markOfRule_J6_bitCount_0f7a4 : GoodIn wsX2_markOfRule (va_wsS RX2 118 yJ6_bitCount_0f7a4 wsJ6_bitCount_0f7a4) := goodIn_app (goodIn_of _ (by decide +kernel)) ggX2_markOfRule_J6_bitCount_0f7a4
theorem dX2_markOfRule_0 : decode cX2_markOfRule 0 = .ok (.aload_n 0, 1) := by decide +kernel
theorem dX2_markOfRule_1 : decode cX2_markOfRule 1 = .ok (.dup, 1) := by decide +kernel
theorem dX2_markOfRule_2 : decode cX2_markOfRule 2 = .ok (.getfield 157, 3) := by decide +kernel
theorem dX2_markOfRule_5 : decode cX2_markOfRule 5 = .ok (.lconst 1, 1) := by decide +kernel
theorem dX2_markOfRule_6 : decode cX2_markOfRule 6 = .ok (.ladd, 1) := by decide +kernel
theorem dX2_markOfRule_7 : decode cX2_markOfRule 7 = .ok (.putfield 157, 3) := by decide +kernel
theorem dX2_markOfRule_10 : decode cX2_markOfRule 10 = .ok (.aload_n 0, 1) := by decide +kernel
theorem dX2_markOfRule_11 : decode cX2_markOfRule 11 = .ok (.getfield 19, 3) := by decide +kernel
theorem dX2_markOfRule_14 : decode cX2_markOfRule 14 = .ok (.getfield 67, 3) := by decide +kernel
theorem dX2_markOfRule_17 : decode cX2_markOfRule 17 = .ok (.iload_n 1, 1) := by decide +kernel
theorem dX2_markOfRule_18 : decode cX2_markOfRule 18 = .ok (.iaload, 1) := by decide +kernel
theorem dX2_markOfRule_19 : decode cX2_markOfRule 19 = .ok (.invokestatic 118, 3) := by decide +kernel
theorem dX2_markOfRule_22 : decode cX2_markOfRule 22 = .ok (.aload_n 0, 1) := by decide +kernel
theorem dX2_markOfRule_23 : decode cX2_markOfRule 23 = .ok (.getfield 19, 3) := by decide +kernel
theorem dX2_markOfRule_26 : decode cX2_markOfRule 26 = .ok (.getfield 70, 3) := by decide +kernel
theorem dX2_markOfRule_29 : decode cX2_markOfRule 29 = .ok (.iload_n 1, 1) := by decide +kernel
theorem dX2_markOfRule_30 : decode cX2_markOfRule 30 = .ok (.iaload, 1) := by decide +kernel
theorem dX2_markOfRule_31 : decode cX2_markOfRule 31 = .ok (.invokestatic 118, 3) := by decide +kernel
theorem dX2_markOfRule_34 : decode cX2_markOfRule 34 = .ok (.iadd, 1) := by decide +kernel
theorem dX2_markOfRule_35 : decode cX2_markOfRule 35 = .ok (.ireturn, 1) := by decide +kernel
set_option maxRecDepth 20000 in
theorem ggX2_markOfLaw_X2_markOfRule : GoodIn wsX2_markOfLaw wsX2_markOfRule := goodIn_r _ [7, 1, 8, 9, 10, 11, 12, 13, 14, 15, 16, 17, 18, 19, 20, 21, 22, 23, 24, 25, 26, 27, 28, 29] (by decide +kernel) (by decide +kernel)
set_option maxRecDepth 20000 in
theorem gX2_markOfLaw_X2_markOfRule : GoodIn wsX2_markOfLaw (wsV RX2 139 RX2 yX2_markOfRule wsX2_markOfRule) := goodIn_app (goodIn_of _ (by decide +kernel)) ggX2_markOfLaw_X2_markOfRule
theorem dX2_markOfLaw_0 : decode cX2_markOfLaw 0 = .ok (.aload_n 0, 1) := by decide +kernel
theorem dX2_markOfLaw_1 : decode cX2_markOfLaw 1 = .ok (.dup, 1) := by decide +kernel
theorem dX2_markOfLaw_2 : decode cX2_markOfLaw 2 = .ok (.getfield 157, 3) := by decide +kernel
theorem dX2_markOfLaw_5 : decode cX2_markOfLaw 5 = .ok (.ldc2_w 161, 3) := by decide +kernel
theorem dX2_markOfLaw_8 : decode cX2_markOfLaw 8 = .ok (.ladd, 1) := by decide +kernel
theorem dX2_markOfLaw_9 : decode cX2_markOfLaw 9 = .ok (.putfield 157, 3) := by decide +kernel
theorem dX2_markOfLaw_12 : decode cX2_markOfLaw 12 = .ok (.aload_n 0, 1) := by decide +kernel
theorem dX2_markOfLaw_13 : decode cX2_markOfLaw 13 = .ok (.iload_n 1, 1) := by decide +kernel
theorem dX2_markOfLaw_14 : decode cX2_markOfLaw 14 = .ok (.invokevirtual 139, 3) := by decide +kernel
theorem dX2_markOfLaw_17 : decode cX2_markOfLaw 17 = .ok (.iconst 2, 1) := by decide +kernel
theorem dX2_markOfLaw_18 : decode cX2_markOfLaw 18 = .ok (.imul, 1) := by decide +kernel
theorem dX2_markOfLaw_19 : decode cX2_markOfLaw 19 = .ok (.ireturn, 1) := by decide +kernel
set_option maxRecDepth 20000 in
theorem ggX2_markOfHabit_X2_markOfRule : GoodIn wsX2_markOfHabit wsX2_markOfRule := goodIn_r _ [8, 1, 3, 9, 10, 11, 12, 13, 14, 15, 16, 17, 18, 19, 20, 21, 22, 23, 24, 25, 26, 27, 28, 29] (by decide +kernel) (by decide +kernel)
end
section
set_option maxRecDepth 20000 in
theorem gX2_markOfHabit_X2_markOfRule : GoodIn wsX2_markOfHabit (wsV RX2 139 RX2 yX2_markOfRule wsX2_markOfRule) := goodIn_app (goodIn_of _ (by decide +kernel)) ggX2_markOfHabit_X2_markOfRule
set_option maxRecDepth 20000 in
theorem ggX2_markOfHabit_J6_bitCount_0f7a4 : GoodIn wsX2_markOfHabit wsJ6_bitCount_0f7a4 := goodIn_r _ [12, 13, 14, 15] (by decide +kernel) (by decide +kernel)
set_option maxRecDepth 20000 in
theorem gX2_markOfHabit_J6_bitCount_0f7a4 : GoodIn wsX2_markOfHabit (va_wsS RX2 118 yJ6_bitCount_0f7a4 wsJ6_bitCount_0f7a4) := goodIn_app (goodIn_of _ (by decide +kernel)) ggX2_markOfHabit_J6_bitCount_0f7a4
theorem dX2_markOfHabit_0 : decode cX2_markOfHabit 0 = .ok (.aload_n 0, 1) := by decide +kernel
theorem dX2_markOfHabit_1 : decode cX2_markOfHabit 1 = .ok (.dup, 1) := by decide +kernel
theorem dX2_markOfHabit_2 : decode cX2_markOfHabit 2 = .ok (.getfield 157, 3) := by decide +kernel
theorem dX2_markOfHabit_5 : decode cX2_markOfHabit 5 = .ok (.ldc2_w 163, 3) := by decide +kernel
theorem dX2_markOfHabit_8 : decode cX2_markOfHabit 8 = .ok (.ladd, 1) := by decide +kernel
theorem dX2_markOfHabit_9 : decode cX2_markOfHabit 9 = .ok (.putfield 157, 3) := by decide +kernel
theorem dX2_markOfHabit_12 : decode cX2_markOfHabit 12 = .ok (.aload_n 0, 1) := by decide +kernel
theorem dX2_markOfHabit_13 : decode cX2_markOfHabit 13 = .ok (.iload_n 1, 1) := by decide +kernel
theorem dX2_markOfHabit_14 : decode cX2_markOfHabit 14 = .ok (.invokevirtual 139, 3) := by decide +kernel
theorem dX2_markOfHabit_17 : decode cX2_markOfHabit 17 = .ok (.aload_n 0, 1) := by decide +kernel
theorem dX2_markOfHabit_18 : decode cX2_markOfHabit 18 = .ok (.getfield 19, 3) := by decide +kernel
theorem dX2_markOfHabit_21 : decode cX2_markOfHabit 21 = .ok (.getfield 70, 3) := by decide +kernel
theorem dX2_markOfHabit_24 : decode cX2_markOfHabit 24 = .ok (.iload_n 1, 1) := by decide +kernel
theorem dX2_markOfHabit_25 : decode cX2_markOfHabit 25 = .ok (.iaload, 1) := by decide +kernel
theorem dX2_markOfHabit_26 : decode cX2_markOfHabit 26 = .ok (.invokestatic 118, 3) := by decide +kernel
theorem dX2_markOfHabit_29 : decode cX2_markOfHabit 29 = .ok (.isub, 1) := by decide +kernel
theorem dX2_markOfHabit_30 : decode cX2_markOfHabit 30 = .ok (.ireturn, 1) := by decide +kernel
set_option maxRecDepth 20000 in
theorem ggX2_markOfDecree_X2_markOfLaw : GoodIn wsX2_markOfDecree wsX2_markOfLaw := goodIn_r _ [7, 1, 8, 9, 10, 11, 6, 12, 13, 14, 15, 16, 17, 18, 19, 20, 21, 22, 23, 24, 25, 26, 27, 28, 29, 30, 31, 32, 33, 34] (by decide +kernel) (by decide +kernel)
set_option maxRecDepth 20000 in
theorem gX2_markOfDecree_X2_markOfLaw : GoodIn wsX2_markOfDecree (wsV RX2 142 RX2 yX2_markOfLaw wsX2_markOfLaw) := goodIn_app (goodIn_of _ (by decide +kernel)) ggX2_markOfDecree_X2_markOfLaw
theorem dX2_markOfDecree_0 : decode cX2_markOfDecree 0 = .ok (.aload_n 0, 1) := by decide +kernel
theorem dX2_markOfDecree_1 : decode cX2_markOfDecree 1 = .ok (.dup, 1) := by decide +kernel
theorem dX2_markOfDecree_2 : decode cX2_markOfDecree 2 = .ok (.getfield 157, 3) := by decide +kernel
theorem dX2_markOfDecree_5 : decode cX2_markOfDecree 5 = .ok (.ldc2_w 165, 3) := by decide +kernel
theorem dX2_markOfDecree_8 : decode cX2_markOfDecree 8 = .ok (.ladd, 1) := by decide +kernel
theorem dX2_markOfDecree_9 : decode cX2_markOfDecree 9 = .ok (.putfield 157, 3) := by decide +kernel
theorem dX2_markOfDecree_12 : decode cX2_markOfDecree 12 = .ok (.aload_n 0, 1) := by decide +kernel
theorem dX2_markOfDecree_13 : decode cX2_markOfDecree 13 = .ok (.iload_n 1, 1) := by decide +kernel
theorem dX2_markOfDecree_14 : decode cX2_markOfDecree 14 = .ok (.invokevirtual 142, 3) := by decide +kernel
theorem dX2_markOfDecree_17 : decode cX2_markOfDecree 17 = .ok (.iload_n 1, 1) := by decide +kernel
theorem dX2_markOfDecree_18 : decode cX2_markOfDecree 18 = .ok (.iadd, 1) := by decide +kernel
theorem dX2_markOfDecree_19 : decode cX2_markOfDecree 19 = .ok (.ireturn, 1) := by decide +kernel
set_option maxRecDepth 20000 in
theorem ggX2_markOfCustom_X2_markOfHabit : GoodIn wsX2_markOfCustom wsX2_markOfHabit := goodIn_r _ [8, 1, 9, 10, 11, 12, 13, 7, 14, 15, 16, 17, 18, 19, 20, 21, 25, 26, 27, 28, 29, 30, 31, 32, 33, 34, 35, 36, 37, 38] (by decide +kernel) (by decide +kernel)
set_option maxRecDepth 20000 in
theorem gX2_markOfCustom_X2_markOfHabit : GoodIn wsX2_markOfCustom (wsV RX2 145 RX2 yX2_markOfHabit wsX2_markOfHabit) := goodIn_app (goodIn_of _ (by decide +kernel)) ggX2_markOfCustom_X2_markOfHabit
set_option maxRecDepth 20000 in
theorem ggX2_markOfCustom_X2_bitOf : GoodIn wsX2_markOfCustom wsX2_bitOf := goodIn_r _ [24] (by decide +kernel) (by decide +kernel)
set_option maxRecDepth 20000 in
theorem gX2_markOfCustom_X2_bitOf : GoodIn wsX2_markOfCustom (va_wsS RX2 73 yX2_bitOf wsX2_bitOf) := goodIn_app (goodIn_of _ (by decide +kernel)) ggX2_markOfCustom_X2_bitOf
theorem dX2_markOfCustom_0 : decode cX2_markOfCustom 0 = .ok (.aload_n 0, 1) := by decide +kernel
theorem dX2_markOfCustom_1 : decode cX2_markOfCustom 1 = .ok (.dup, 1) := by decide +kernel
theorem dX2_markOfCustom_2 : decode cX2_markOfCustom 2 = .ok (.getfield 157, 3) := by decide +kernel
theorem dX2_markOfCustom_5 : decode cX2_markOfCustom 5 = .ok (.ldc2_w 167, 3) := by decide +kernel
theorem dX2_markOfCustom_8 : decode cX2_markOfCustom 8 = .ok (.ladd, 1) := by decide +kernel
theorem dX2_markOfCustom_9 : decode cX2_markOfCustom 9 = .ok (.putfield 157, 3) := by decide +kernel
theorem dX2_markOfCustom_12 : decode cX2_markOfCustom 12 = .ok (.aload_n 0, 1) := by decide +kernel
theorem dX2_markOfCustom_13 : decode cX2_markOfCustom 13 = .ok (.iload_n 1, 1) := by decide +kernel
theorem dX2_markOfCustom_14 : decode cX2_markOfCustom 14 = .ok (.invokevirtual 145, 3) := by decide +kernel
theorem dX2_markOfCustom_17 : decode cX2_markOfCustom 17 = .ok (.aload_n 0, 1) := by decide +kernel
theorem dX2_markOfCustom_18 : decode cX2_markOfCustom 18 = .ok (.getfield 51, 3) := by decide +kernel
theorem dX2_markOfCustom_21 : decode cX2_markOfCustom 21 = .ok (.iload_n 1, 1) := by decide +kernel
theorem dX2_markOfCustom_22 : decode cX2_markOfCustom 22 = .ok (.invokestatic 73, 3) := by decide +kernel
theorem dX2_markOfCustom_25 : decode cX2_markOfCustom 25 = .ok (.iadd, 1) := by decide +kernel
theorem dX2_markOfCustom_26 : decode cX2_markOfCustom 26 = .ok (.ireturn, 1) := by decide +kernel
set_option maxRecDepth 20000 in
theorem ggX2_markOfOath_X2_markOfRule : GoodIn wsX2_markOfOath wsX2_markOfRule := goodIn_r _ [8, 1, 3, 9, 10, 11, 12, 13, 14, 15, 16, 17, 18, 19, 20, 21, 22, 23, 24, 25, 26, 27, 28, 29] (by decide +kernel) (by decide +kernel)
set_option maxRecDepth 20000 in
theorem gX2_markOfOath_X2_markOfRule : GoodIn wsX2_markOfOath (wsV RX2 139 RX2 yX2_markOfRule wsX2_markOfRule) := goodIn_app (goodIn_of _ (by decide +kernel)) ggX2_markOfOath_X2_markOfRule
theorem dX2_markOfOath_0 : decode cX2_markOfOath 0 = .ok (.aload_n 0, 1) := by decide +kernel
theorem dX2_markOfOath_1 : decode cX2_markOfOath 1 = .ok (.dup, 1) := by decide +kernel
theorem dX2_markOfOath_2 : decode cX2_markOfOath 2 = .ok (.getfield 157, 3) := by decide +kernel
theorem dX2_markOfOath_5 : decode cX2_markOfOath 5 = .ok (.ldc2_w 169, 3) := by decide +kernel
theorem dX2_markOfOath_8 : decode cX2_markOfOath 8 = .ok (.ladd, 1) := by decide +kernel
theorem dX2_markOfOath_9 : decode cX2_markOfOath 9 = .ok (.putfield 157, 3) := by decide +kernel
theorem dX2_markOfOath_12 : decode cX2_markOfOath 12 = .ok (.aload_n 0, 1) := by decide +kernel
theorem dX2_markOfOath_13 : decode cX2_markOfOath 13 = .ok (.iload_n 1, 1) := by decide +kernel
theorem dX2_markOfOath_14 : decode cX2_markOfOath 14 = .ok (.invokevirtual 139, 3) := by decide +kernel
theorem dX2_markOfOath_17 : decode cX2_markOfOath 17 = .ok (.aload_n 0, 1) := by decide +kernel
theorem dX2_markOfOath_18 : decode cX2_markOfOath 18 = .ok (.getfield 19, 3) := by decide +kernel
theorem dX2_markOfOath_21 : decode cX2_markOfOath 21 = .ok (.getfield 64, 3) := by decide +kernel
theorem dX2_markOfOath_24 : decode cX2_markOfOath 24 = .ok (.iload_n 1, 1) := by decide +kernel
theorem dX2_markOfOath_25 : decode cX2_markOfOath 25 = .ok (.iaload, 1) := by decide +kernel
theorem dX2_markOfOath_26 : decode cX2_markOfOath 26 = .ok (.iadd, 1) := by decide +kernel
theorem dX2_markOfOath_27 : decode cX2_markOfOath 27 = .ok (.ireturn, 1) := by decide +kernel
end
section
def wX (h : Nat → Nat) (cA : Nat → ClassId) (by_ : Nat → Int32) (ln : Int32) (pl : Int32) (tk : Int32) (tp : Int32) (sz : Int32) (may : Int32) (hd : Nat → Int32) (fi : Nat → Int32) (un : Nat → Int32) (sz2 : Int32) (may2 : Int32) (hd2 : Nat → Int32) (fi2 : Nat → Int32) (un2 : Nat → Int32) (on : Int32) (asd : Int32) (io : Nat → Int32) (ia : Nat → Int32) (kept : Int32) (tr : Int64) : va_W := [((h 0), .inr (2, [.ref (h 1), .ref (h 3), .ref (h 7), .int on, .int asd, .ref (h 11), .ref (h 12), .int kept, .long tr])), ((h 1), .inr (1, [.ref (h 2), .int ln, .int pl, .int tk, .int tp])), ((h 2), .inl ((cA 2), 300, .inl by_)), ((h 3), .inr (0, [.int sz, .int may, .ref (h 4), .ref (h 5), .ref (h 6)])), ((h 4), .inl ((cA 4), 10, .inl hd)), ((h 5), .inl ((cA 5), 10, .inl fi)), ((h 6), .inl ((cA 6), 10, .inl un)), ((h 7), .inr (0, [.int sz2, .int may2, .ref (h 8), .ref (h 9), .ref (h 10)])), ((h 8), .inl ((cA 8), 10, .inl hd2)), ((h 9), .inl ((cA 9), 10, .inl fi2)), ((h 10), .inl ((cA 10), 10, .inl un2)), ((h 11), .inl ((cA 11), 2, .inl io)), ((h 12), .inl ((cA 12), 2, .inl ia))]
def tX (h : Nat → Nat) (cA : Nat → ClassId) : List (ClassId × FieldType) := [((cA 2), .byte), ((cA 4), .int), ((cA 5), .int), ((cA 6), .int), ((cA 8), .int), ((cA 9), .int), ((cA 10), .int), ((cA 11), .int), ((cA 12), .int)]

def s_X2_isSet (set : Int32) : Int32 := (if set < 0 then 0 else (if 255 < set then 0 else 1))
set_option maxHeartbeats 4000000 in
set_option maxRecDepth 100000 in
theorem c_X2_isSet (l : Launch) (D : va_G) (set : Int32) (sz : Nat) : Met l yX2_isSet wsX2_isSet ({ frames := 0, cells := 0, slots := 0, locals := 0 }) (va_Pc [.int set] (cPre D ([] : List (ClassId × FieldType)) ([] : va_W) sz)) (va_Qi (fun r (_ : Unit) => r = s_X2_isSet set) (fun _ _ => True) (fun q => sz ≤ q)) 0 0 (fun q => sz ≤ q) := by
  refine Met.ofW (cc := cX2_isSet) (maxL := 1) (ret := (some .boolean)) (by decide) rfl ?_
  intro p e s m args below meth c s₁ B hml hv
  obtain ⟨rfl, hsz, hP, hK, hD, hN⟩ := hv
  have hx := B.exec
  have hb := B.bytes
  have hr := B.returns
  have hts := atoms_spec (ws := wsX2_isSet) B.pre
  have hown : s.vm.findClass RX2 = some m.cls := findClass_of_methodNamed B.named
  have hlocks := B.notSynchronized
  subst hsz
  obtain ⟨A, hAe⟩ : ∃ A : Nat → Prop, A = (fun q : Nat => s.heap.size ≤ q) := ⟨_, rfl⟩
  have hA : ∀ q : Nat, s.heap.size ≤ q → A q := fun q h => by rw [hAe]; exact h
  have hS : va_S A s.heap s.heap [] := va_S.rf
  subst hAe
  have hl := lv_entry ([.int set]) (n := 1) (Nat.le_of_ble_eq_true rfl)
  rw [lg_entry_eq]
  generalize (lg_sl ([.int set]) ++ List.replicate (1 - (lg_sl ([.int set])).length) Slot.unset).toArray = ls at hl ⊢
  replace hl : lv_has ls 1 [(0, .int set)] := hl
  have hKe := hK.sub (tys' := []) [] rfl
  refine lv_iload_n hx hb dX2_isSet_0 rfl (lv_at hl 0 rfl) ?_
  refine lv_if_lt (tgt := 15) hx hb dX2_isSet_1 (by decide) (fun c_1_1 => ?_) (fun c_1_1 => ?_)
  · refine lv_iconst (v := 0) hx hb dX2_isSet_15 (by decide) ?_
    exact ro_zret hx hb hr hS hlocks (show s_X2_isSet set = 0 from by (unfold s_X2_isSet; (try dsimp only); (try rw [if_pos c_1_1]); first | done | rfl)).symm (by decide +kernel) dX2_isSet_16
  · refine lv_iload_n hx hb dX2_isSet_4 rfl (lv_at hl 0 rfl) ?_
    refine lv_sipush (v := 255) hx hb dX2_isSet_5 (by decide) ?_
    refine lv_icmp_gt (tgt := 15) hx hb dX2_isSet_8 (by decide) (fun c_8_2 => ?_) (fun c_8_2 => ?_)
    · refine lv_iconst (v := 0) hx hb dX2_isSet_15 (by decide) ?_
      exact ro_zret hx hb hr hS hlocks (show s_X2_isSet set = 0 from by (unfold s_X2_isSet; (try dsimp only); (try rw [if_neg c_1_1]); (try rw [if_pos c_8_2]); first | done | rfl)).symm (by decide +kernel) dX2_isSet_16
    · refine lv_iconst (v := 1) hx hb dX2_isSet_11 (by decide) ?_
      refine lv_goto (tgt := 16) hx hb dX2_isSet_12 (by decide) ?_
      exact ro_zret hx hb hr hS hlocks (show s_X2_isSet set = 1 from by (unfold s_X2_isSet; (try dsimp only); (try rw [if_neg c_1_1]); (try rw [if_neg c_8_2]); first | done | rfl)).symm (by decide +kernel) dX2_isSet_16

def s_X2_isImage (image : Int32) : Int32 := (if image < 0 then 0 else (if 2 ≤ image then 0 else 1))
set_option maxHeartbeats 4000000 in
set_option maxRecDepth 100000 in
theorem c_X2_isImage (l : Launch) (D : va_G) (image : Int32) (sz : Nat) : Met l yX2_isImage wsX2_isImage ({ frames := 0, cells := 0, slots := 0, locals := 0 }) (va_Pc [.int image] (cPre D ([] : List (ClassId × FieldType)) ([] : va_W) sz)) (va_Qi (fun r (_ : Unit) => r = s_X2_isImage image) (fun _ _ => True) (fun q => sz ≤ q)) 0 0 (fun q => sz ≤ q) := by
  refine Met.ofW (cc := cX2_isImage) (maxL := 1) (ret := (some .boolean)) (by decide) rfl ?_
  intro p e s m args below meth c s₁ B hml hv
  obtain ⟨rfl, hsz, hP, hK, hD, hN⟩ := hv
  have hx := B.exec
  have hb := B.bytes
  have hr := B.returns
  have hts := atoms_spec (ws := wsX2_isImage) B.pre
  have hown : s.vm.findClass RX2 = some m.cls := findClass_of_methodNamed B.named
  have hlocks := B.notSynchronized
  subst hsz
  obtain ⟨A, hAe⟩ : ∃ A : Nat → Prop, A = (fun q : Nat => s.heap.size ≤ q) := ⟨_, rfl⟩
  have hA : ∀ q : Nat, s.heap.size ≤ q → A q := fun q h => by rw [hAe]; exact h
  have hS : va_S A s.heap s.heap [] := va_S.rf
  subst hAe
  have hl := lv_entry ([.int image]) (n := 1) (Nat.le_of_ble_eq_true rfl)
  rw [lg_entry_eq]
  generalize (lg_sl ([.int image]) ++ List.replicate (1 - (lg_sl ([.int image])).length) Slot.unset).toArray = ls at hl ⊢
  replace hl : lv_has ls 1 [(0, .int image)] := hl
  have hKe := hK.sub (tys' := []) [] rfl
  refine lv_iload_n hx hb dX2_isImage_0 rfl (lv_at hl 0 rfl) ?_
  refine lv_if_lt (tgt := 13) hx hb dX2_isImage_1 (by decide) (fun c_1_1 => ?_) (fun c_1_1 => ?_)
  · refine lv_iconst (v := 0) hx hb dX2_isImage_13 (by decide) ?_
    exact ro_zret hx hb hr hS hlocks (show s_X2_isImage image = 0 from by (unfold s_X2_isImage; (try dsimp only); (try rw [if_pos c_1_1]); first | done | rfl)).symm (by decide +kernel) dX2_isImage_14
  · refine lv_iload_n hx hb dX2_isImage_4 rfl (lv_at hl 0 rfl) ?_
    refine lv_iconst (v := 2) hx hb dX2_isImage_5 (by decide) ?_
    refine lv_icmp_ge (tgt := 13) hx hb dX2_isImage_6 (by decide) (fun c_6_2 => ?_) (fun c_6_2 => ?_)
    · refine lv_iconst (v := 0) hx hb dX2_isImage_13 (by decide) ?_
      exact ro_zret hx hb hr hS hlocks (show s_X2_isImage image = 0 from by (unfold s_X2_isImage; (try dsimp only); (try rw [if_neg c_1_1]); (try rw [if_pos c_6_2]); first | done | rfl)).symm (by decide +kernel) dX2_isImage_14
    · refine lv_iconst (v := 1) hx hb dX2_isImage_9 (by decide) ?_
      refine lv_goto (tgt := 14) hx hb dX2_isImage_10 (by decide) ?_
      exact ro_zret hx hb hr hS hlocks (show s_X2_isImage image = 1 from by (unfold s_X2_isImage; (try dsimp only); (try rw [if_neg c_1_1]); (try rw [if_neg c_6_2]); first | done | rfl)).symm (by decide +kernel) dX2_isImage_14

def s_X2_isBit (number : Int32) : Int32 := (if number = 0 then 1 else (if number = 1 then 1 else 0))
set_option maxHeartbeats 4000000 in
set_option maxRecDepth 100000 in
theorem c_X2_isBit (l : Launch) (D : va_G) (number : Int32) (sz : Nat) : Met l yX2_isBit wsX2_isBit ({ frames := 0, cells := 0, slots := 0, locals := 0 }) (va_Pc [.int number] (cPre D ([] : List (ClassId × FieldType)) ([] : va_W) sz)) (va_Qi (fun r (_ : Unit) => r = s_X2_isBit number) (fun _ _ => True) (fun q => sz ≤ q)) 0 0 (fun q => sz ≤ q) := by
  refine Met.ofW (cc := cX2_isBit) (maxL := 1) (ret := (some .boolean)) (by decide) rfl ?_
  intro p e s m args below meth c s₁ B hml hv
  obtain ⟨rfl, hsz, hP, hK, hD, hN⟩ := hv
  have hx := B.exec
  have hb := B.bytes
  have hr := B.returns
  have hts := atoms_spec (ws := wsX2_isBit) B.pre
  have hown : s.vm.findClass RX2 = some m.cls := findClass_of_methodNamed B.named
  have hlocks := B.notSynchronized
  subst hsz
  obtain ⟨A, hAe⟩ : ∃ A : Nat → Prop, A = (fun q : Nat => s.heap.size ≤ q) := ⟨_, rfl⟩
  have hA : ∀ q : Nat, s.heap.size ≤ q → A q := fun q h => by rw [hAe]; exact h
  have hS : va_S A s.heap s.heap [] := va_S.rf
  subst hAe
  have hl := lv_entry ([.int number]) (n := 1) (Nat.le_of_ble_eq_true rfl)
  rw [lg_entry_eq]
  generalize (lg_sl ([.int number]) ++ List.replicate (1 - (lg_sl ([.int number])).length) Slot.unset).toArray = ls at hl ⊢
  replace hl : lv_has ls 1 [(0, .int number)] := hl
  have hKe := hK.sub (tys' := []) [] rfl
  refine lv_iload_n hx hb dX2_isBit_0 rfl (lv_at hl 0 rfl) ?_
  refine lv_if_eq (tgt := 9) hx hb dX2_isBit_1 (by decide) (fun c_1_1 => ?_) (fun c_1_1 => ?_)
  · refine lv_iconst (v := 1) hx hb dX2_isBit_9 (by decide) ?_
    refine lv_goto (tgt := 14) hx hb dX2_isBit_10 (by decide) ?_
    exact ro_zret hx hb hr hS hlocks (show s_X2_isBit number = 1 from by (unfold s_X2_isBit; (try dsimp only); (try rw [if_pos c_1_1]); first | done | rfl)).symm (by decide +kernel) dX2_isBit_14
  · refine lv_iload_n hx hb dX2_isBit_4 rfl (lv_at hl 0 rfl) ?_
    refine lv_iconst (v := 1) hx hb dX2_isBit_5 (by decide) ?_
    refine lv_icmp_ne (tgt := 13) hx hb dX2_isBit_6 (by decide) (fun c_6_2 => ?_) (fun c_6_2 => ?_)
    · refine lv_iconst (v := 0) hx hb dX2_isBit_13 (by decide) ?_
      exact ro_zret hx hb hr hS hlocks (show s_X2_isBit number = 0 from by (unfold s_X2_isBit; (try dsimp only); (try rw [if_neg c_1_1]); (try rw [if_neg c_6_2]); first | done | rfl)).symm (by decide +kernel) dX2_isBit_14
    · refine lv_iconst (v := 1) hx hb dX2_isBit_9 (by decide) ?_
      refine lv_goto (tgt := 14) hx hb dX2_isBit_10 (by decide) ?_
      exact ro_zret hx hb hr hS hlocks (show s_X2_isBit number = 1 from by (unfold s_X2_isBit; (try dsimp only); (try rw [if_neg c_1_1]); (try rw [if_pos c_6_2]); first | done | rfl)).symm (by decide +kernel) dX2_isBit_14

def s_X2_withBit (bits : Int32) (place : Int32) (bit : Int32) : Int32 := ((bits &&& ((1 <<< (place &&& 31)) ^^^ (-1))) ||| (bit <<< (place &&& 31)))
set_option maxHeartbeats 4000000 in
set_option maxRecDepth 100000 in
theorem c_X2_withBit (l : Launch) (D : va_G) (bits : Int32) (place : Int32) (bit : Int32) (sz : Nat) : Met l yX2_withBit wsX2_withBit ({ frames := 0, cells := 0, slots := 0, locals := 0 }) (va_Pc [.int bits, .int place, .int bit] (cPre D ([] : List (ClassId × FieldType)) ([] : va_W) sz)) (va_Qi (fun r (_ : Unit) => r = s_X2_withBit bits place bit) (fun _ _ => True) (fun q => sz ≤ q)) 0 0 (fun q => sz ≤ q) := by
  refine Met.ofW (cc := cX2_withBit) (maxL := 3) (ret := (some .int)) (by decide) rfl ?_
  intro p e s m args below meth c s₁ B hml hv
  obtain ⟨rfl, hsz, hP, hK, hD, hN⟩ := hv
  have hx := B.exec
  have hb := B.bytes
  have hr := B.returns
  have hts := atoms_spec (ws := wsX2_withBit) B.pre
  have hown : s.vm.findClass RX2 = some m.cls := findClass_of_methodNamed B.named
  have hlocks := B.notSynchronized
  subst hsz
  obtain ⟨A, hAe⟩ : ∃ A : Nat → Prop, A = (fun q : Nat => s.heap.size ≤ q) := ⟨_, rfl⟩
  have hA : ∀ q : Nat, s.heap.size ≤ q → A q := fun q h => by rw [hAe]; exact h
  have hS : va_S A s.heap s.heap [] := va_S.rf
  subst hAe
  have hl := lv_entry ([.int bits, .int place, .int bit]) (n := 3) (Nat.le_of_ble_eq_true rfl)
  rw [lg_entry_eq]
  generalize (lg_sl ([.int bits, .int place, .int bit]) ++ List.replicate (3 - (lg_sl ([.int bits, .int place, .int bit])).length) Slot.unset).toArray = ls at hl ⊢
  replace hl : lv_has ls 3 [(0, .int bits), (1, .int place), (2, .int bit)] := hl
  have hKe := hK.sub (tys' := []) [] rfl
  refine lv_iload_n hx hb dX2_withBit_0 rfl (lv_at hl 0 rfl) ?_
  refine lv_iconst (v := 1) hx hb dX2_withBit_1 (by decide) ?_
  refine lv_iload_n hx hb dX2_withBit_2 rfl (lv_at hl 1 rfl) ?_
  refine lv_ishl hx hb dX2_withBit_3 ?_
  refine lv_iconst (v := (-1)) hx hb dX2_withBit_4 (by decide) ?_
  refine lv_ixor hx hb dX2_withBit_5 ?_
  refine lv_iand hx hb dX2_withBit_6 ?_
  refine lv_iload_n hx hb dX2_withBit_7 rfl (lv_at hl 2 rfl) ?_
  refine lv_iload_n hx hb dX2_withBit_8 rfl (lv_at hl 1 rfl) ?_
  refine lv_ishl hx hb dX2_withBit_9 ?_
  refine lv_ior hx hb dX2_withBit_10 ?_
  exact ro_iret hx hb hr hS hlocks (show s_X2_withBit bits place bit = ((bits &&& ((1 <<< (place &&& 31)) ^^^ (-1))) ||| (bit <<< (place &&& 31))) from by (unfold s_X2_withBit; (try dsimp only); first | done | rfl)).symm dX2_withBit_11

def s_J6_bitCount_0f7a4 (bits : Int32) : Int32 := ((((((((bits - (((bits.toUInt32 >>> ((1 : Int32).toUInt32 &&& Int32.toUInt32 31)).toInt32) &&& 1431655765)) &&& 858993459) + ((((bits - (((bits.toUInt32 >>> ((1 : Int32).toUInt32 &&& Int32.toUInt32 31)).toInt32) &&& 1431655765)).toUInt32 >>> ((2 : Int32).toUInt32 &&& Int32.toUInt32 31)).toInt32) &&& 858993459)) + (((((bits - (((bits.toUInt32 >>> ((1 : Int32).toUInt32 &&& Int32.toUInt32 31)).toInt32) &&& 1431655765)) &&& 858993459) + ((((bits - (((bits.toUInt32 >>> ((1 : Int32).toUInt32 &&& Int32.toUInt32 31)).toInt32) &&& 1431655765)).toUInt32 >>> ((2 : Int32).toUInt32 &&& Int32.toUInt32 31)).toInt32) &&& 858993459)).toUInt32 >>> ((4 : Int32).toUInt32 &&& Int32.toUInt32 31)).toInt32)) &&& 252645135) + (((((((bits - (((bits.toUInt32 >>> ((1 : Int32).toUInt32 &&& Int32.toUInt32 31)).toInt32) &&& 1431655765)) &&& 858993459) + ((((bits - (((bits.toUInt32 >>> ((1 : Int32).toUInt32 &&& Int32.toUInt32 31)).toInt32) &&& 1431655765)).toUInt32 >>> ((2 : Int32).toUInt32 &&& Int32.toUInt32 31)).toInt32) &&& 858993459)) + (((((bits - (((bits.toUInt32 >>> ((1 : Int32).toUInt32 &&& Int32.toUInt32 31)).toInt32) &&& 1431655765)) &&& 858993459) + ((((bits - (((bits.toUInt32 >>> ((1 : Int32).toUInt32 &&& Int32.toUInt32 31)).toInt32) &&& 1431655765)).toUInt32 >>> ((2 : Int32).toUInt32 &&& Int32.toUInt32 31)).toInt32) &&& 858993459)).toUInt32 >>> ((4 : Int32).toUInt32 &&& Int32.toUInt32 31)).toInt32)) &&& 252645135).toUInt32 >>> ((8 : Int32).toUInt32 &&& Int32.toUInt32 31)).toInt32)) + ((((((((bits - (((bits.toUInt32 >>> ((1 : Int32).toUInt32 &&& Int32.toUInt32 31)).toInt32) &&& 1431655765)) &&& 858993459) + ((((bits - (((bits.toUInt32 >>> ((1 : Int32).toUInt32 &&& Int32.toUInt32 31)).toInt32) &&& 1431655765)).toUInt32 >>> ((2 : Int32).toUInt32 &&& Int32.toUInt32 31)).toInt32) &&& 858993459)) + (((((bits - (((bits.toUInt32 >>> ((1 : Int32).toUInt32 &&& Int32.toUInt32 31)).toInt32) &&& 1431655765)) &&& 858993459) + ((((bits - (((bits.toUInt32 >>> ((1 : Int32).toUInt32 &&& Int32.toUInt32 31)).toInt32) &&& 1431655765)).toUInt32 >>> ((2 : Int32).toUInt32 &&& Int32.toUInt32 31)).toInt32) &&& 858993459)).toUInt32 >>> ((4 : Int32).toUInt32 &&& Int32.toUInt32 31)).toInt32)) &&& 252645135) + (((((((bits - (((bits.toUInt32 >>> ((1 : Int32).toUInt32 &&& Int32.toUInt32 31)).toInt32) &&& 1431655765)) &&& 858993459) + ((((bits - (((bits.toUInt32 >>> ((1 : Int32).toUInt32 &&& Int32.toUInt32 31)).toInt32) &&& 1431655765)).toUInt32 >>> ((2 : Int32).toUInt32 &&& Int32.toUInt32 31)).toInt32) &&& 858993459)) + (((((bits - (((bits.toUInt32 >>> ((1 : Int32).toUInt32 &&& Int32.toUInt32 31)).toInt32) &&& 1431655765)) &&& 858993459) + ((((bits - (((bits.toUInt32 >>> ((1 : Int32).toUInt32 &&& Int32.toUInt32 31)).toInt32) &&& 1431655765)).toUInt32 >>> ((2 : Int32).toUInt32 &&& Int32.toUInt32 31)).toInt32) &&& 858993459)).toUInt32 >>> ((4 : Int32).toUInt32 &&& Int32.toUInt32 31)).toInt32)) &&& 252645135).toUInt32 >>> ((8 : Int32).toUInt32 &&& Int32.toUInt32 31)).toInt32)).toUInt32 >>> ((16 : Int32).toUInt32 &&& Int32.toUInt32 31)).toInt32)) &&& 63)
set_option maxHeartbeats 4000000 in
set_option maxRecDepth 100000 in
theorem c_J6_bitCount_0f7a4 (l : Launch) (D : va_G) (bits : Int32) (sz : Nat) : Met l yJ6_bitCount_0f7a4 wsJ6_bitCount_0f7a4 ({ frames := 0, cells := 0, slots := 0, locals := 0 }) (va_Pc [.int bits] (cPre D ([] : List (ClassId × FieldType)) ([] : va_W) sz)) (va_Qi (fun r (_ : Unit) => r = s_J6_bitCount_0f7a4 bits) (fun _ _ => True) (fun q => sz ≤ q)) 0 0 (fun q => sz ≤ q) := by
  refine Met.ofW (cc := cJ6_bitCount_0f7a4) (maxL := 1) (ret := (some .int)) (by decide) rfl ?_
  intro p e s m args below meth c s₁ B hml hv
  obtain ⟨rfl, hsz, hP, hK, hD, hN⟩ := hv
  have hx := B.exec
  have hb := B.bytes
  have hr := B.returns
  have hts := atoms_spec (ws := wsJ6_bitCount_0f7a4) B.pre
  have hown : s.vm.findClass RJ6 = some m.cls := findClass_of_methodNamed B.named
  have hlocks := B.notSynchronized
  subst hsz
  obtain ⟨A, hAe⟩ : ∃ A : Nat → Prop, A = (fun q : Nat => s.heap.size ≤ q) := ⟨_, rfl⟩
  have hA : ∀ q : Nat, s.heap.size ≤ q → A q := fun q h => by rw [hAe]; exact h
  have hS : va_S A s.heap s.heap [] := va_S.rf
  subst hAe
  have hl := lv_entry ([.int bits]) (n := 1) (Nat.le_of_ble_eq_true rfl)
  rw [lg_entry_eq]
  generalize (lg_sl ([.int bits]) ++ List.replicate (1 - (lg_sl ([.int bits])).length) Slot.unset).toArray = ls at hl ⊢
  replace hl : lv_has ls 1 [(0, .int bits)] := hl
  have hKe := hK.sub (tys' := []) [] rfl
  refine lv_iload_n hx hb dJ6_bitCount_0f7a4_0 rfl (lv_at hl 0 rfl) ?_
  refine lv_iload_n hx hb dJ6_bitCount_0f7a4_1 rfl (lv_at hl 0 rfl) ?_
  refine lv_iconst (v := 1) hx hb dJ6_bitCount_0f7a4_2 (by decide) ?_
  refine lv_iushr hx hb dJ6_bitCount_0f7a4_3 rfl ?_
  refine lv_ldcw (v := 1431655765) hx hb hown (hts (.constant RJ6 265 (1431655765)) (by decide +kernel)) dJ6_bitCount_0f7a4_4 ?_
  refine lv_iand hx hb dJ6_bitCount_0f7a4_7 ?_
  refine lv_isub hx hb dJ6_bitCount_0f7a4_8 ?_
  refine lv_istore_n (lv' := [(0, .int (bits - (((bits.toUInt32 >>> ((1 : Int32).toUInt32 &&& Int32.toUInt32 31)).toInt32) &&& 1431655765)))]) hx hb dJ6_bitCount_0f7a4_9 rfl hl (by decide) rfl (fun ls hl => ?_)
  refine lv_iload_n hx hb dJ6_bitCount_0f7a4_10 rfl (lv_at hl 0 rfl) ?_
  refine lv_ldcw (v := 858993459) hx hb hown (hts (.constant RJ6 266 (858993459)) (by decide +kernel)) dJ6_bitCount_0f7a4_11 ?_
  refine lv_iand hx hb dJ6_bitCount_0f7a4_14 ?_
  refine lv_iload_n hx hb dJ6_bitCount_0f7a4_15 rfl (lv_at hl 0 rfl) ?_
  refine lv_iconst (v := 2) hx hb dJ6_bitCount_0f7a4_16 (by decide) ?_
  refine lv_iushr hx hb dJ6_bitCount_0f7a4_17 rfl ?_
  refine lv_ldcw (v := 858993459) hx hb hown (hts (.constant RJ6 266 (858993459)) (by decide +kernel)) dJ6_bitCount_0f7a4_18 ?_
  refine lv_iand hx hb dJ6_bitCount_0f7a4_21 ?_
  refine lv_iadd hx hb dJ6_bitCount_0f7a4_22 ?_
  refine lv_istore_n (lv' := [(0, .int (((bits - (((bits.toUInt32 >>> ((1 : Int32).toUInt32 &&& Int32.toUInt32 31)).toInt32) &&& 1431655765)) &&& 858993459) + ((((bits - (((bits.toUInt32 >>> ((1 : Int32).toUInt32 &&& Int32.toUInt32 31)).toInt32) &&& 1431655765)).toUInt32 >>> ((2 : Int32).toUInt32 &&& Int32.toUInt32 31)).toInt32) &&& 858993459)))]) hx hb dJ6_bitCount_0f7a4_23 rfl hl (by decide) rfl (fun ls hl => ?_)
  refine lv_iload_n hx hb dJ6_bitCount_0f7a4_24 rfl (lv_at hl 0 rfl) ?_
  refine lv_iload_n hx hb dJ6_bitCount_0f7a4_25 rfl (lv_at hl 0 rfl) ?_
  refine lv_iconst (v := 4) hx hb dJ6_bitCount_0f7a4_26 (by decide) ?_
  refine lv_iushr hx hb dJ6_bitCount_0f7a4_27 rfl ?_
  refine lv_iadd hx hb dJ6_bitCount_0f7a4_28 ?_
  refine lv_ldcw (v := 252645135) hx hb hown (hts (.constant RJ6 267 (252645135)) (by decide +kernel)) dJ6_bitCount_0f7a4_29 ?_
  refine lv_iand hx hb dJ6_bitCount_0f7a4_32 ?_
  refine lv_istore_n (lv' := [(0, .int (((((bits - (((bits.toUInt32 >>> ((1 : Int32).toUInt32 &&& Int32.toUInt32 31)).toInt32) &&& 1431655765)) &&& 858993459) + ((((bits - (((bits.toUInt32 >>> ((1 : Int32).toUInt32 &&& Int32.toUInt32 31)).toInt32) &&& 1431655765)).toUInt32 >>> ((2 : Int32).toUInt32 &&& Int32.toUInt32 31)).toInt32) &&& 858993459)) + (((((bits - (((bits.toUInt32 >>> ((1 : Int32).toUInt32 &&& Int32.toUInt32 31)).toInt32) &&& 1431655765)) &&& 858993459) + ((((bits - (((bits.toUInt32 >>> ((1 : Int32).toUInt32 &&& Int32.toUInt32 31)).toInt32) &&& 1431655765)).toUInt32 >>> ((2 : Int32).toUInt32 &&& Int32.toUInt32 31)).toInt32) &&& 858993459)).toUInt32 >>> ((4 : Int32).toUInt32 &&& Int32.toUInt32 31)).toInt32)) &&& 252645135))]) hx hb dJ6_bitCount_0f7a4_33 rfl hl (by decide) rfl (fun ls hl => ?_)
  refine lv_iload_n hx hb dJ6_bitCount_0f7a4_34 rfl (lv_at hl 0 rfl) ?_
  refine lv_iload_n hx hb dJ6_bitCount_0f7a4_35 rfl (lv_at hl 0 rfl) ?_
  refine lv_bipush (v := 8) hx hb dJ6_bitCount_0f7a4_36 (by decide) ?_
  refine lv_iushr hx hb dJ6_bitCount_0f7a4_38 rfl ?_
  refine lv_iadd hx hb dJ6_bitCount_0f7a4_39 ?_
  refine lv_istore_n (lv' := [(0, .int ((((((bits - (((bits.toUInt32 >>> ((1 : Int32).toUInt32 &&& Int32.toUInt32 31)).toInt32) &&& 1431655765)) &&& 858993459) + ((((bits - (((bits.toUInt32 >>> ((1 : Int32).toUInt32 &&& Int32.toUInt32 31)).toInt32) &&& 1431655765)).toUInt32 >>> ((2 : Int32).toUInt32 &&& Int32.toUInt32 31)).toInt32) &&& 858993459)) + (((((bits - (((bits.toUInt32 >>> ((1 : Int32).toUInt32 &&& Int32.toUInt32 31)).toInt32) &&& 1431655765)) &&& 858993459) + ((((bits - (((bits.toUInt32 >>> ((1 : Int32).toUInt32 &&& Int32.toUInt32 31)).toInt32) &&& 1431655765)).toUInt32 >>> ((2 : Int32).toUInt32 &&& Int32.toUInt32 31)).toInt32) &&& 858993459)).toUInt32 >>> ((4 : Int32).toUInt32 &&& Int32.toUInt32 31)).toInt32)) &&& 252645135) + (((((((bits - (((bits.toUInt32 >>> ((1 : Int32).toUInt32 &&& Int32.toUInt32 31)).toInt32) &&& 1431655765)) &&& 858993459) + ((((bits - (((bits.toUInt32 >>> ((1 : Int32).toUInt32 &&& Int32.toUInt32 31)).toInt32) &&& 1431655765)).toUInt32 >>> ((2 : Int32).toUInt32 &&& Int32.toUInt32 31)).toInt32) &&& 858993459)) + (((((bits - (((bits.toUInt32 >>> ((1 : Int32).toUInt32 &&& Int32.toUInt32 31)).toInt32) &&& 1431655765)) &&& 858993459) + ((((bits - (((bits.toUInt32 >>> ((1 : Int32).toUInt32 &&& Int32.toUInt32 31)).toInt32) &&& 1431655765)).toUInt32 >>> ((2 : Int32).toUInt32 &&& Int32.toUInt32 31)).toInt32) &&& 858993459)).toUInt32 >>> ((4 : Int32).toUInt32 &&& Int32.toUInt32 31)).toInt32)) &&& 252645135).toUInt32 >>> ((8 : Int32).toUInt32 &&& Int32.toUInt32 31)).toInt32)))]) hx hb dJ6_bitCount_0f7a4_40 rfl hl (by decide) rfl (fun ls hl => ?_)
  refine lv_iload_n hx hb dJ6_bitCount_0f7a4_41 rfl (lv_at hl 0 rfl) ?_
  refine lv_iload_n hx hb dJ6_bitCount_0f7a4_42 rfl (lv_at hl 0 rfl) ?_
  refine lv_bipush (v := 16) hx hb dJ6_bitCount_0f7a4_43 (by decide) ?_
  refine lv_iushr hx hb dJ6_bitCount_0f7a4_45 rfl ?_
  refine lv_iadd hx hb dJ6_bitCount_0f7a4_46 ?_
  refine lv_istore_n (lv' := [(0, .int (((((((bits - (((bits.toUInt32 >>> ((1 : Int32).toUInt32 &&& Int32.toUInt32 31)).toInt32) &&& 1431655765)) &&& 858993459) + ((((bits - (((bits.toUInt32 >>> ((1 : Int32).toUInt32 &&& Int32.toUInt32 31)).toInt32) &&& 1431655765)).toUInt32 >>> ((2 : Int32).toUInt32 &&& Int32.toUInt32 31)).toInt32) &&& 858993459)) + (((((bits - (((bits.toUInt32 >>> ((1 : Int32).toUInt32 &&& Int32.toUInt32 31)).toInt32) &&& 1431655765)) &&& 858993459) + ((((bits - (((bits.toUInt32 >>> ((1 : Int32).toUInt32 &&& Int32.toUInt32 31)).toInt32) &&& 1431655765)).toUInt32 >>> ((2 : Int32).toUInt32 &&& Int32.toUInt32 31)).toInt32) &&& 858993459)).toUInt32 >>> ((4 : Int32).toUInt32 &&& Int32.toUInt32 31)).toInt32)) &&& 252645135) + (((((((bits - (((bits.toUInt32 >>> ((1 : Int32).toUInt32 &&& Int32.toUInt32 31)).toInt32) &&& 1431655765)) &&& 858993459) + ((((bits - (((bits.toUInt32 >>> ((1 : Int32).toUInt32 &&& Int32.toUInt32 31)).toInt32) &&& 1431655765)).toUInt32 >>> ((2 : Int32).toUInt32 &&& Int32.toUInt32 31)).toInt32) &&& 858993459)) + (((((bits - (((bits.toUInt32 >>> ((1 : Int32).toUInt32 &&& Int32.toUInt32 31)).toInt32) &&& 1431655765)) &&& 858993459) + ((((bits - (((bits.toUInt32 >>> ((1 : Int32).toUInt32 &&& Int32.toUInt32 31)).toInt32) &&& 1431655765)).toUInt32 >>> ((2 : Int32).toUInt32 &&& Int32.toUInt32 31)).toInt32) &&& 858993459)).toUInt32 >>> ((4 : Int32).toUInt32 &&& Int32.toUInt32 31)).toInt32)) &&& 252645135).toUInt32 >>> ((8 : Int32).toUInt32 &&& Int32.toUInt32 31)).toInt32)) + ((((((((bits - (((bits.toUInt32 >>> ((1 : Int32).toUInt32 &&& Int32.toUInt32 31)).toInt32) &&& 1431655765)) &&& 858993459) + ((((bits - (((bits.toUInt32 >>> ((1 : Int32).toUInt32 &&& Int32.toUInt32 31)).toInt32) &&& 1431655765)).toUInt32 >>> ((2 : Int32).toUInt32 &&& Int32.toUInt32 31)).toInt32) &&& 858993459)) + (((((bits - (((bits.toUInt32 >>> ((1 : Int32).toUInt32 &&& Int32.toUInt32 31)).toInt32) &&& 1431655765)) &&& 858993459) + ((((bits - (((bits.toUInt32 >>> ((1 : Int32).toUInt32 &&& Int32.toUInt32 31)).toInt32) &&& 1431655765)).toUInt32 >>> ((2 : Int32).toUInt32 &&& Int32.toUInt32 31)).toInt32) &&& 858993459)).toUInt32 >>> ((4 : Int32).toUInt32 &&& Int32.toUInt32 31)).toInt32)) &&& 252645135) + (((((((bits - (((bits.toUInt32 >>> ((1 : Int32).toUInt32 &&& Int32.toUInt32 31)).toInt32) &&& 1431655765)) &&& 858993459) + ((((bits - (((bits.toUInt32 >>> ((1 : Int32).toUInt32 &&& Int32.toUInt32 31)).toInt32) &&& 1431655765)).toUInt32 >>> ((2 : Int32).toUInt32 &&& Int32.toUInt32 31)).toInt32) &&& 858993459)) + (((((bits - (((bits.toUInt32 >>> ((1 : Int32).toUInt32 &&& Int32.toUInt32 31)).toInt32) &&& 1431655765)) &&& 858993459) + ((((bits - (((bits.toUInt32 >>> ((1 : Int32).toUInt32 &&& Int32.toUInt32 31)).toInt32) &&& 1431655765)).toUInt32 >>> ((2 : Int32).toUInt32 &&& Int32.toUInt32 31)).toInt32) &&& 858993459)).toUInt32 >>> ((4 : Int32).toUInt32 &&& Int32.toUInt32 31)).toInt32)) &&& 252645135).toUInt32 >>> ((8 : Int32).toUInt32 &&& Int32.toUInt32 31)).toInt32)).toUInt32 >>> ((16 : Int32).toUInt32 &&& Int32.toUInt32 31)).toInt32)))]) hx hb dJ6_bitCount_0f7a4_47 rfl hl (by decide) rfl (fun ls hl => ?_)
  refine lv_iload_n hx hb dJ6_bitCount_0f7a4_48 rfl (lv_at hl 0 rfl) ?_
  refine lv_bipush (v := 63) hx hb dJ6_bitCount_0f7a4_49 (by decide) ?_
  refine lv_iand hx hb dJ6_bitCount_0f7a4_51 ?_
  exact ro_iret hx hb hr hS hlocks (show s_J6_bitCount_0f7a4 bits = ((((((((bits - (((bits.toUInt32 >>> ((1 : Int32).toUInt32 &&& Int32.toUInt32 31)).toInt32) &&& 1431655765)) &&& 858993459) + ((((bits - (((bits.toUInt32 >>> ((1 : Int32).toUInt32 &&& Int32.toUInt32 31)).toInt32) &&& 1431655765)).toUInt32 >>> ((2 : Int32).toUInt32 &&& Int32.toUInt32 31)).toInt32) &&& 858993459)) + (((((bits - (((bits.toUInt32 >>> ((1 : Int32).toUInt32 &&& Int32.toUInt32 31)).toInt32) &&& 1431655765)) &&& 858993459) + ((((bits - (((bits.toUInt32 >>> ((1 : Int32).toUInt32 &&& Int32.toUInt32 31)).toInt32) &&& 1431655765)).toUInt32 >>> ((2 : Int32).toUInt32 &&& Int32.toUInt32 31)).toInt32) &&& 858993459)).toUInt32 >>> ((4 : Int32).toUInt32 &&& Int32.toUInt32 31)).toInt32)) &&& 252645135) + (((((((bits - (((bits.toUInt32 >>> ((1 : Int32).toUInt32 &&& Int32.toUInt32 31)).toInt32) &&& 1431655765)) &&& 858993459) + ((((bits - (((bits.toUInt32 >>> ((1 : Int32).toUInt32 &&& Int32.toUInt32 31)).toInt32) &&& 1431655765)).toUInt32 >>> ((2 : Int32).toUInt32 &&& Int32.toUInt32 31)).toInt32) &&& 858993459)) + (((((bits - (((bits.toUInt32 >>> ((1 : Int32).toUInt32 &&& Int32.toUInt32 31)).toInt32) &&& 1431655765)) &&& 858993459) + ((((bits - (((bits.toUInt32 >>> ((1 : Int32).toUInt32 &&& Int32.toUInt32 31)).toInt32) &&& 1431655765)).toUInt32 >>> ((2 : Int32).toUInt32 &&& Int32.toUInt32 31)).toInt32) &&& 858993459)).toUInt32 >>> ((4 : Int32).toUInt32 &&& Int32.toUInt32 31)).toInt32)) &&& 252645135).toUInt32 >>> ((8 : Int32).toUInt32 &&& Int32.toUInt32 31)).toInt32)) + ((((((((bits - (((bits.toUInt32 >>> ((1 : Int32).toUInt32 &&& Int32.toUInt32 31)).toInt32) &&& 1431655765)) &&& 858993459) + ((((bits - (((bits.toUInt32 >>> ((1 : Int32).toUInt32 &&& Int32.toUInt32 31)).toInt32) &&& 1431655765)).toUInt32 >>> ((2 : Int32).toUInt32 &&& Int32.toUInt32 31)).toInt32) &&& 858993459)) + (((((bits - (((bits.toUInt32 >>> ((1 : Int32).toUInt32 &&& Int32.toUInt32 31)).toInt32) &&& 1431655765)) &&& 858993459) + ((((bits - (((bits.toUInt32 >>> ((1 : Int32).toUInt32 &&& Int32.toUInt32 31)).toInt32) &&& 1431655765)).toUInt32 >>> ((2 : Int32).toUInt32 &&& Int32.toUInt32 31)).toInt32) &&& 858993459)).toUInt32 >>> ((4 : Int32).toUInt32 &&& Int32.toUInt32 31)).toInt32)) &&& 252645135) + (((((((bits - (((bits.toUInt32 >>> ((1 : Int32).toUInt32 &&& Int32.toUInt32 31)).toInt32) &&& 1431655765)) &&& 858993459) + ((((bits - (((bits.toUInt32 >>> ((1 : Int32).toUInt32 &&& Int32.toUInt32 31)).toInt32) &&& 1431655765)).toUInt32 >>> ((2 : Int32).toUInt32 &&& Int32.toUInt32 31)).toInt32) &&& 858993459)) + (((((bits - (((bits.toUInt32 >>> ((1 : Int32).toUInt32 &&& Int32.toUInt32 31)).toInt32) &&& 1431655765)) &&& 858993459) + ((((bits - (((bits.toUInt32 >>> ((1 : Int32).toUInt32 &&& Int32.toUInt32 31)).toInt32) &&& 1431655765)).toUInt32 >>> ((2 : Int32).toUInt32 &&& Int32.toUInt32 31)).toInt32) &&& 858993459)).toUInt32 >>> ((4 : Int32).toUInt32 &&& Int32.toUInt32 31)).toInt32)) &&& 252645135).toUInt32 >>> ((8 : Int32).toUInt32 &&& Int32.toUInt32 31)).toInt32)).toUInt32 >>> ((16 : Int32).toUInt32 &&& Int32.toUInt32 31)).toInt32)) &&& 63) from by (unfold s_J6_bitCount_0f7a4; (try dsimp only); first | done | rfl)).symm dJ6_bitCount_0f7a4_52

def s_X2_isBetter (bits : Int32) (best : Int32) : Int32 := (if best = (-9) then 1 else (if ((s_J6_bitCount_0f7a4 bits) - (s_J6_bitCount_0f7a4 best)) < 0 then 1 else (if ((s_J6_bitCount_0f7a4 bits) - (s_J6_bitCount_0f7a4 best)) = 0 then (if best ≤ bits then 0 else 1) else 0)))
set_option maxHeartbeats 4000000 in
set_option maxRecDepth 100000 in
theorem c_X2_isBetter (l : Launch) (D : va_G) (bits : Int32) (best : Int32) (sz : Nat) : Met l yX2_isBetter wsX2_isBetter ({ frames := 1, cells := 0, slots := 0, locals := 20 }) (va_Pc [.int bits, .int best] (cPre D ([] : List (ClassId × FieldType)) ([] : va_W) sz)) (va_Qi (fun r (_ : Unit) => r = s_X2_isBetter bits best) (fun _ _ => True) (fun q => sz ≤ q)) 0 0 (fun q => sz ≤ q) := by
  refine Met.ofW (cc := cX2_isBetter) (maxL := 3) (ret := (some .boolean)) (by decide) rfl ?_
  intro p e s m args below meth c s₁ B hml hv
  obtain ⟨rfl, hsz, hP, hK, hD, hN⟩ := hv
  have hx := B.exec
  have hb := B.bytes
  have hr := B.returns
  have hts := atoms_spec (ws := wsX2_isBetter) B.pre
  have hown : s.vm.findClass RX2 = some m.cls := findClass_of_methodNamed B.named
  have hlocks := B.notSynchronized
  subst hsz
  obtain ⟨A, hAe⟩ : ∃ A : Nat → Prop, A = (fun q : Nat => s.heap.size ≤ q) := ⟨_, rfl⟩
  have hA : ∀ q : Nat, s.heap.size ≤ q → A q := fun q h => by rw [hAe]; exact h
  have hS : va_S A s.heap s.heap [] := va_S.rf
  subst hAe
  have hl := lv_entry ([.int bits, .int best]) (n := 3) (Nat.le_of_ble_eq_true rfl)
  rw [lg_entry_eq]
  generalize (lg_sl ([.int bits, .int best]) ++ List.replicate (3 - (lg_sl ([.int bits, .int best])).length) Slot.unset).toArray = ls at hl ⊢
  replace hl : lv_has ls 3 [(0, .int bits), (1, .int best)] := hl
  have hKe := hK.sub (tys' := []) [] rfl
  refine lv_iload_n hx hb dX2_isBetter_0 rfl (lv_at hl 1 rfl) ?_
  refine lv_bipush (v := (-9)) hx hb dX2_isBetter_1 (by decide) ?_
  refine lv_icmp_ne (tgt := 8) hx hb dX2_isBetter_3 (by decide) (fun c_3_1 => ?_) (fun c_3_1 => ?_)
  · refine lv_iload_n hx hb dX2_isBetter_8 rfl (lv_at hl 0 rfl) ?_
    refine ro_i (D := D) (va_runS (As := [.int bits]) (rest := []) ⟨hx, hb, hml, hown, hts⟩ (c_J6_bitCount_0f7a4 l D bits  _) (va_cwS 1 hts gX2_isBetter_J6_bitCount_0f7a4 rfl rfl rfl (by decide +kernel) ⟨Nat.le_of_ble_eq_true rfl, Nat.le_of_ble_eq_true rfl⟩) ⟨cPre.blind, cPre.mk vP0 hKe vD0 hN⟩ rfl rfl hl.1 rfl (lv_room (Nat.le_of_ble_eq_true rfl)) dX2_isBetter_9 ⟨Nat.zero_le _, Nat.zero_le _⟩) hS hA (fun H locs hkp0 hS => ?_)
    replace hP := hkp0 _ hP
    refine lv_iload_n hx hb dX2_isBetter_12 rfl (lv_at hl 1 rfl) ?_
    refine ro_i (D := D) (va_runS (As := [.int best]) (rest := [.int (s_J6_bitCount_0f7a4 bits)]) ⟨hx, hb, hml, hown, hts⟩ (c_J6_bitCount_0f7a4 l D best  _) (va_cwS 1 hts gX2_isBetter_J6_bitCount_0f7a4 rfl rfl rfl (by decide +kernel) ⟨Nat.le_of_ble_eq_true rfl, Nat.le_of_ble_eq_true rfl⟩) ⟨cPre.blind, cPre.mk vP0 hKe vD0 hN⟩ rfl rfl hl.1 rfl (lv_room (Nat.le_of_ble_eq_true rfl)) dX2_isBetter_13 ⟨Nat.zero_le _, Nat.zero_le _⟩) hS hA (fun H locs hkp0 hS => ?_)
    replace hP := hkp0 _ hP
    refine lv_isub hx hb dX2_isBetter_16 ?_
    refine lv_istore_n (lv' := [(2, .int ((s_J6_bitCount_0f7a4 bits) - (s_J6_bitCount_0f7a4 best))), (0, .int bits), (1, .int best)]) hx hb dX2_isBetter_17 rfl hl (by decide) rfl (fun ls hl => ?_)
    refine lv_iload_n hx hb dX2_isBetter_18 rfl (lv_at hl 0 rfl) ?_
    refine lv_if_lt (tgt := 31) hx hb dX2_isBetter_19 (by decide) (fun c_19_2 => ?_) (fun c_19_2 => ?_)
    · refine lv_iconst (v := 1) hx hb dX2_isBetter_31 (by decide) ?_
      refine lv_goto (tgt := 36) hx hb dX2_isBetter_32 (by decide) ?_
      exact ro_zret hx hb hr hS hlocks (show s_X2_isBetter bits best = 1 from by (unfold s_X2_isBetter; (try dsimp only); (try rw [if_neg c_3_1]); (try rw [if_pos c_19_2]); first | done | rfl)).symm (by decide +kernel) dX2_isBetter_36
    · refine lv_iload_n hx hb dX2_isBetter_22 rfl (lv_at hl 0 rfl) ?_
      refine lv_if_ne (tgt := 35) hx hb dX2_isBetter_23 (by decide) (fun c_23_3 => ?_) (fun c_23_3 => ?_)
      · refine lv_iconst (v := 0) hx hb dX2_isBetter_35 (by decide) ?_
        exact ro_zret hx hb hr hS hlocks (show s_X2_isBetter bits best = 0 from by (unfold s_X2_isBetter; (try dsimp only); (try rw [if_neg c_3_1]); (try rw [if_neg c_19_2]); (try rw [if_neg c_23_3]); first | done | rfl)).symm (by decide +kernel) dX2_isBetter_36
      · refine lv_iload_n hx hb dX2_isBetter_26 rfl (lv_at hl 1 rfl) ?_
        refine lv_iload_n hx hb dX2_isBetter_27 rfl (lv_at hl 2 rfl) ?_
        refine lv_icmp_ge (tgt := 35) hx hb dX2_isBetter_28 (by decide) (fun c_28_4 => ?_) (fun c_28_4 => ?_)
        · refine lv_iconst (v := 0) hx hb dX2_isBetter_35 (by decide) ?_
          exact ro_zret hx hb hr hS hlocks (show s_X2_isBetter bits best = 0 from by (unfold s_X2_isBetter; (try dsimp only); (try rw [if_neg c_3_1]); (try rw [if_neg c_19_2]); (try rw [if_pos c_23_3]); (try rw [if_pos c_28_4]); first | done | rfl)).symm (by decide +kernel) dX2_isBetter_36
        · refine lv_iconst (v := 1) hx hb dX2_isBetter_31 (by decide) ?_
          refine lv_goto (tgt := 36) hx hb dX2_isBetter_32 (by decide) ?_
          exact ro_zret hx hb hr hS hlocks (show s_X2_isBetter bits best = 1 from by (unfold s_X2_isBetter; (try dsimp only); (try rw [if_neg c_3_1]); (try rw [if_neg c_19_2]); (try rw [if_pos c_23_3]); (try rw [if_neg c_28_4]); first | done | rfl)).symm (by decide +kernel) dX2_isBetter_36
  · refine lv_iconst (v := 1) hx hb dX2_isBetter_6 (by decide) ?_
    exact ro_zret hx hb hr hS hlocks (show s_X2_isBetter bits best = 1 from by (unfold s_X2_isBetter; (try dsimp only); (try rw [if_pos c_3_1]); first | done | rfl)).symm (by decide +kernel) dX2_isBetter_7

def s_X2_isRule (n : Nat) (k : Int32) : Int32 := (if k < 0 then 0 else (if (nI n) ≤ k then 0 else 1))
set_option maxHeartbeats 4000000 in
set_option maxRecDepth 100000 in
theorem c_X2_isRule (l : Launch) (D : va_G) (h : Nat → Nat) (cA : Nat → ClassId) (n : Nat) (by_ : Nat → Int32) (ln : Int32) (pl : Int32) (tk : Int32) (tp : Int32) (may : Int32) (hd : Nat → Int32) (fi : Nat → Int32) (un : Nat → Int32) (sz2 : Int32) (may2 : Int32) (hd2 : Nat → Int32) (fi2 : Nat → Int32) (un2 : Nat → Int32) (on : Int32) (asd : Int32) (io : Nat → Int32) (ia : Nat → Int32) (kept : Int32) (tr : Int64) (k : Int32) (hn : n ≤ 10) (sz : Nat) : Met l yX2_isRule wsX2_isRule ({ frames := 0, cells := 0, slots := 0, locals := 0 }) (va_Pc [.ref (h 0), .int k] (cPre D (tX h cA) (wX h cA by_ ln pl tk tp (nI n) may hd fi un sz2 may2 hd2 fi2 un2 on asd io ia kept tr) sz)) (va_Qi (fun r (_ : Unit) => r = s_X2_isRule n k) (fun _ _ => True) (fun q => sz ≤ q)) 0 0 (fun q => sz ≤ q) := by
  refine Met.ofW (cc := cX2_isRule) (maxL := 2) (ret := (some .boolean)) (by decide) rfl ?_
  intro p e s m args below meth c s₁ B hml hv
  obtain ⟨rfl, hsz, hP, hK, hD, hN⟩ := hv
  have hx := B.exec
  have hb := B.bytes
  have hr := B.returns
  have hts := atoms_spec (ws := wsX2_isRule) B.pre
  have hown : s.vm.findClass RX2 = some m.cls := findClass_of_methodNamed B.named
  have hlocks := B.notSynchronized
  have hinX0 : ∀ w ∈ wsX00, w ∈ wsX2_isRule := fun w h => List.mem_cons_of_mem _ (List.mem_append_right _ h)
  have hinX2 : ∀ w ∈ wsX20, w ∈ wsX2_isRule := fun w h => List.mem_cons_of_mem _ (List.mem_append_left _ (List.mem_append_right _ h))
  subst hsz
  obtain ⟨A, hAe⟩ : ∃ A : Nat → Prop, A = (fun q : Nat => s.heap.size ≤ q) := ⟨_, rfl⟩
  have hA : ∀ q : Nat, s.heap.size ≤ q → A q := fun q h => by rw [hAe]; exact h
  have hS : va_S A s.heap s.heap [] := va_S.rf
  subst hAe
  have hl := lv_entry ([.ref (h 0), .int k]) (n := 2) (Nat.le_of_ble_eq_true rfl)
  rw [lg_entry_eq]
  generalize (lg_sl ([.ref (h 0), .int k]) ++ List.replicate (2 - (lg_sl ([.ref (h 0), .int k])).length) Slot.unset).toArray = ls at hl ⊢
  replace hl : lv_has ls 2 [(0, .ref (h 0)), (1, .int k)] := hl
  have hKe := hK.sub (tys' := []) [] rfl
  refine lv_iload_n hx hb dX2_isRule_0 rfl (lv_at hl 1 rfl) ?_
  refine lv_if_lt (tgt := 19) hx hb dX2_isRule_1 (by decide) (fun c_1_1 => ?_) (fun c_1_1 => ?_)
  · refine lv_iconst (v := 0) hx hb dX2_isRule_19 (by decide) ?_
    exact ro_zret hx hb hr hS hlocks (show s_X2_isRule n k = 0 from by (unfold s_X2_isRule; (try dsimp only); (try rw [if_pos c_1_1]); first | done | rfl)).symm (by decide +kernel) dX2_isRule_20
  · refine lv_iload_n hx hb dX2_isRule_4 rfl (lv_at hl 1 rfl) ?_
    refine lv_aload_n hx hb dX2_isRule_5 rfl (lv_at hl 0 rfl) ?_
    refine va_get (D := D) (ci := 2) (v := .ref (h 3)) (C := RX2) (T := TX2) (N := 9) hx hb hts hinX2 hown hK hP 0 rfl rfl 1 (by decide) (hts (.fieldLink RX2 19 "HoldUnless" "book" "LHoldUnless$RuleBook;") (by decide +kernel)) (fun _ h9 => h9) rfl dX2_isRule_6 ?_
    refine va_getN (D := D) (ci := 0) (v := .int (nI n)) (C := RX0) (T := TX0) (N := 5) hx hb hts hinX0 hown hK hP 3 rfl rfl 0 (by decide) (hN.use 18 rfl) (fun _ h9 => h9) rfl dX2_isRule_9 ?_
    refine lv_icmp_ge (tgt := 19) hx hb dX2_isRule_12 (by decide) (fun c_12_2 => ?_) (fun c_12_2 => ?_)
    · refine lv_iconst (v := 0) hx hb dX2_isRule_19 (by decide) ?_
      exact ro_zret hx hb hr hS hlocks (show s_X2_isRule n k = 0 from by (unfold s_X2_isRule; (try dsimp only); (try rw [if_neg c_1_1]); (try rw [if_pos c_12_2]); first | done | rfl)).symm (by decide +kernel) dX2_isRule_20
    · refine lv_iconst (v := 1) hx hb dX2_isRule_15 (by decide) ?_
      refine lv_goto (tgt := 20) hx hb dX2_isRule_16 (by decide) ?_
      exact ro_zret hx hb hr hS hlocks (show s_X2_isRule n k = 1 from by (unfold s_X2_isRule; (try dsimp only); (try rw [if_neg c_1_1]); (try rw [if_neg c_12_2]); first | done | rfl)).symm (by decide +kernel) dX2_isRule_20
end
section
theorem vp_image {k : Int32} (h : ¬ s_X2_isImage k = 0) : vp_in k 2 := by
  unfold s_X2_isImage at h
  by_cases h0 : k < 0
  · rw [if_pos h0] at h; exact absurd rfl h
  · rw [if_neg h0] at h
    by_cases h1 : (2 : Int32) ≤ k
    · rw [if_pos h1] at h; exact absurd rfl h
    · exact vp_of rfl h0 h1
theorem nI_toInt10 {n : Nat} (hn : n ≤ 10) : (nI n).toInt = (n : Int) := nI_toInt (by omega)
theorem vp_rule {n : Nat} {k : Int32} (h : ¬ s_X2_isRule n k = 0) (hn : n ≤ 10) : vp_in k 10 := by
  unfold s_X2_isRule at h
  by_cases h0 : k < 0
  · rw [if_pos h0] at h; exact absurd rfl h
  · rw [if_neg h0] at h
    by_cases h1 : nI n ≤ k
    · rw [if_pos h1] at h; exact absurd rfl h
    · have h2 := vp_of (nI_toInt10 hn) h0 h1
      rw [vp_in_iff] at h2 ⊢
      omega

def s_X2_rule (n : Nat) (hd : Nat → Int32) (fi : Nat → Int32) (un : Nat → Int32) (on : Int32) (k : Int32) (what : Int32) : Int32 := (if (s_X2_isRule n k) = 0 then (-1) else (if what = 0 then (hd k.toNatClampNeg) else (if what = 1 then (fi k.toNatClampNeg) else (if what = 2 then (un k.toNatClampNeg) else (if what = 3 then (s_X2_bitOf on k) else (-1))))))
set_option maxHeartbeats 4000000 in
set_option maxRecDepth 100000 in
theorem c_X2_rule (l : Launch) (D : va_G) (h : Nat → Nat) (cA : Nat → ClassId) (n : Nat) (by_ : Nat → Int32) (ln : Int32) (pl : Int32) (tk : Int32) (tp : Int32) (may : Int32) (hd : Nat → Int32) (fi : Nat → Int32) (un : Nat → Int32) (sz2 : Int32) (may2 : Int32) (hd2 : Nat → Int32) (fi2 : Nat → Int32) (un2 : Nat → Int32) (on : Int32) (asd : Int32) (io : Nat → Int32) (ia : Nat → Int32) (kept : Int32) (tr : Int64) (k : Int32) (what : Int32) (hn : n ≤ 10) (sz : Nat) : Met l yX2_rule wsX2_rule ({ frames := 1, cells := 0, slots := 0, locals := 21 }) (va_Pc [.ref (h 0), .int k, .int what] (cPre D (tX h cA) (wX h cA by_ ln pl tk tp (nI n) may hd fi un sz2 may2 hd2 fi2 un2 on asd io ia kept tr) sz)) (va_Qi (fun r (_ : Unit) => r = s_X2_rule n hd fi un on k what) (fun _ _ => True) (fun q => sz ≤ q)) 0 0 (fun q => sz ≤ q) := by
  refine Met.ofW (cc := cX2_rule) (maxL := 3) (ret := (some .int)) (by decide) rfl ?_
  intro p e s m args below meth c s₁ B hml hv
  obtain ⟨rfl, hsz, hP, hK, hD, hN⟩ := hv
  have hx := B.exec
  have hb := B.bytes
  have hr := B.returns
  have hts := atoms_spec (ws := wsX2_rule) B.pre
  have hown : s.vm.findClass RX2 = some m.cls := findClass_of_methodNamed B.named
  have hlocks := B.notSynchronized
  have hinX0 : ∀ w ∈ wsX00, w ∈ wsX2_rule := fun w h => List.mem_cons_of_mem _ (List.mem_append_right _ h)
  have hinX2 : ∀ w ∈ wsX20, w ∈ wsX2_rule := fun w h => List.mem_cons_of_mem _ (List.mem_append_left _ (List.mem_append_right _ h))
  subst hsz
  obtain ⟨A, hAe⟩ : ∃ A : Nat → Prop, A = (fun q : Nat => s.heap.size ≤ q) := ⟨_, rfl⟩
  have hA : ∀ q : Nat, s.heap.size ≤ q → A q := fun q h => by rw [hAe]; exact h
  have hS : va_S A s.heap s.heap [] := va_S.rf
  subst hAe
  have hl := lv_entry ([.ref (h 0), .int k, .int what]) (n := 3) (Nat.le_of_ble_eq_true rfl)
  rw [lg_entry_eq]
  generalize (lg_sl ([.ref (h 0), .int k, .int what]) ++ List.replicate (3 - (lg_sl ([.ref (h 0), .int k, .int what])).length) Slot.unset).toArray = ls at hl ⊢
  replace hl : lv_has ls 3 [(0, .ref (h 0)), (1, .int k), (2, .int what)] := hl
  have hKe := hK.sub (tys' := []) [] rfl
  refine lv_aload_n hx hb dX2_rule_0 rfl (lv_at hl 0 rfl) ?_
  refine lv_iload_n hx hb dX2_rule_1 rfl (lv_at hl 1 rfl) ?_
  refine ro_i (D := D) (va_runV (As := [.int k]) (rest := []) ⟨hx, hb, hml, hown, hts⟩ (c_X2_isRule l D h cA n by_ ln pl tk tp may hd fi un sz2 may2 hd2 fi2 un2 on asd io ia kept tr k (by first | assumption | omega) _) (cwV 1 hts gX2_rule_X2_isRule rfl rfl rfl (by decide +kernel) ⟨Nat.le_of_ble_eq_true rfl, Nat.le_of_ble_eq_true rfl⟩) ⟨cPre.blind, va_recv hK hP (ci := 2) (q0 := 0) rfl rfl, cPre.mk hP hK hD hN⟩ rfl rfl hl.1 rfl (lv_room (Nat.le_of_ble_eq_true rfl)) dX2_rule_2 ⟨Nat.zero_le _, Nat.zero_le _⟩) hS hA (fun H locs hkp0 hS => ?_)
  replace hP := hkp0 _ hP
  refine lv_if_ne (tgt := 10) hx hb dX2_rule_5 (by decide) (fun c_5_1 => ?_) (fun c_5_1 => ?_)
  · refine lv_iload_n hx hb dX2_rule_10 rfl (lv_at hl 2 rfl) ?_
    by_cases k_11_2 : what = 0
    · refine lv_tableIn (tgt := 40) hx hb dX2_rule_11 (by rw [k_11_2]; decide) (by rw [k_11_2]; decide) (by rw [k_11_2]; rfl) (by decide) ?_
      refine lv_aload_n hx hb dX2_rule_40 rfl (lv_at hl 0 rfl) ?_
      refine va_get (D := D) (ci := 2) (v := .ref (h 3)) (C := RX2) (T := TX2) (N := 9) hx hb hts hinX2 hown hK hP 0 rfl rfl 1 (by decide) (hts (.fieldLink RX2 19 "HoldUnless" "book" "LHoldUnless$RuleBook;") (by decide +kernel)) (fun _ h9 => h9) rfl dX2_rule_41 ?_
      refine va_getN (D := D) (ci := 0) (v := .ref (h 4)) (C := RX0) (T := TX0) (N := 5) hx hb hts hinX0 hown hK hP 3 rfl rfl 2 (by decide) (hN.use 21 rfl) (fun _ h9 => h9) rfl dX2_rule_44 ?_
      refine lv_iload_n hx hb dX2_rule_47 rfl (lv_at hl 1 rfl) ?_
      refine va_iald hx hb hK hP 4 1 rfl rfl ((vp_rule c_5_1 hn)) dX2_rule_48 ?_
      exact ro_iret hx hb hr hS hlocks (show s_X2_rule n hd fi un on k what = (hd k.toNatClampNeg) from by (unfold s_X2_rule; (try dsimp only); (try rw [if_neg c_5_1]); (try rw [if_pos k_11_2]); first | done | rfl)).symm dX2_rule_49
    · by_cases k_11_3 : what = 1
      · refine lv_tableIn (tgt := 50) hx hb dX2_rule_11 (by rw [k_11_3]; decide) (by rw [k_11_3]; decide) (by rw [k_11_3]; rfl) (by decide) ?_
        refine lv_aload_n hx hb dX2_rule_50 rfl (lv_at hl 0 rfl) ?_
        refine va_get (D := D) (ci := 2) (v := .ref (h 3)) (C := RX2) (T := TX2) (N := 9) hx hb hts hinX2 hown hK hP 0 rfl rfl 1 (by decide) (hts (.fieldLink RX2 19 "HoldUnless" "book" "LHoldUnless$RuleBook;") (by decide +kernel)) (fun _ h9 => h9) rfl dX2_rule_51 ?_
        refine va_getN (D := D) (ci := 0) (v := .ref (h 5)) (C := RX0) (T := TX0) (N := 5) hx hb hts hinX0 hown hK hP 3 rfl rfl 3 (by decide) (hN.use 22 rfl) (fun _ h9 => h9) rfl dX2_rule_54 ?_
        refine lv_iload_n hx hb dX2_rule_57 rfl (lv_at hl 1 rfl) ?_
        refine va_iald hx hb hK hP 5 2 rfl rfl ((vp_rule c_5_1 hn)) dX2_rule_58 ?_
        exact ro_iret hx hb hr hS hlocks (show s_X2_rule n hd fi un on k what = (fi k.toNatClampNeg) from by (unfold s_X2_rule; (try dsimp only); (try rw [if_neg c_5_1]); (try rw [if_neg k_11_2]); (try rw [if_pos k_11_3]); first | done | rfl)).symm dX2_rule_59
      · by_cases k_11_4 : what = 2
        · refine lv_tableIn (tgt := 60) hx hb dX2_rule_11 (by rw [k_11_4]; decide) (by rw [k_11_4]; decide) (by rw [k_11_4]; rfl) (by decide) ?_
          refine lv_aload_n hx hb dX2_rule_60 rfl (lv_at hl 0 rfl) ?_
          refine va_get (D := D) (ci := 2) (v := .ref (h 3)) (C := RX2) (T := TX2) (N := 9) hx hb hts hinX2 hown hK hP 0 rfl rfl 1 (by decide) (hts (.fieldLink RX2 19 "HoldUnless" "book" "LHoldUnless$RuleBook;") (by decide +kernel)) (fun _ h9 => h9) rfl dX2_rule_61 ?_
          refine va_getN (D := D) (ci := 0) (v := .ref (h 6)) (C := RX0) (T := TX0) (N := 5) hx hb hts hinX0 hown hK hP 3 rfl rfl 4 (by decide) (hN.use 23 rfl) (fun _ h9 => h9) rfl dX2_rule_64 ?_
          refine lv_iload_n hx hb dX2_rule_67 rfl (lv_at hl 1 rfl) ?_
          refine va_iald hx hb hK hP 6 3 rfl rfl ((vp_rule c_5_1 hn)) dX2_rule_68 ?_
          exact ro_iret hx hb hr hS hlocks (show s_X2_rule n hd fi un on k what = (un k.toNatClampNeg) from by (unfold s_X2_rule; (try dsimp only); (try rw [if_neg c_5_1]); (try rw [if_neg k_11_2]); (try rw [if_neg k_11_3]); (try rw [if_pos k_11_4]); first | done | rfl)).symm dX2_rule_69
        · by_cases k_11_5 : what = 3
          · refine lv_tableIn (tgt := 70) hx hb dX2_rule_11 (by rw [k_11_5]; decide) (by rw [k_11_5]; decide) (by rw [k_11_5]; rfl) (by decide) ?_
            refine lv_aload_n hx hb dX2_rule_70 rfl (lv_at hl 0 rfl) ?_
            refine va_get (D := D) (ci := 2) (v := .int on) (C := RX2) (T := TX2) (N := 9) hx hb hts hinX2 hown hK hP 0 rfl rfl 3 (by decide) (hts (.fieldLink RX2 51 "HoldUnless" "on" "I") (by decide +kernel)) (fun _ h9 => h9) rfl dX2_rule_71 ?_
            refine lv_iload_n hx hb dX2_rule_74 rfl (lv_at hl 1 rfl) ?_
            refine ro_i (D := D) (va_runS (As := [.int on, .int k]) (rest := []) ⟨hx, hb, hml, hown, hts⟩ (c_X2_bitOf l D on k  _) (va_cwS 2 hts gX2_rule_X2_bitOf rfl rfl rfl (by decide +kernel) ⟨Nat.le_of_ble_eq_true rfl, Nat.le_of_ble_eq_true rfl⟩) ⟨cPre.blind, cPre.mk vP0 hKe vD0 hN⟩ rfl rfl hl.1 rfl (lv_room (Nat.le_of_ble_eq_true rfl)) dX2_rule_75 ⟨Nat.zero_le _, Nat.zero_le _⟩) hS hA (fun H locs hkp0 hS => ?_)
            replace hP := hkp0 _ hP
            exact ro_iret hx hb hr hS hlocks (show s_X2_rule n hd fi un on k what = (s_X2_bitOf on k) from by (unfold s_X2_rule; (try dsimp only); (try rw [if_neg c_5_1]); (try rw [if_neg k_11_2]); (try rw [if_neg k_11_3]); (try rw [if_neg k_11_4]); (try rw [if_pos k_11_5]); first | done | rfl)).symm dX2_rule_78
          · have ne_6 := lv_neT (a := 0) k_11_2 (by decide)
            have ne_7 := lv_neT (a := 1) k_11_3 (by decide)
            have ne_8 := lv_neT (a := 2) k_11_4 (by decide)
            have ne_9 := lv_neT (a := 3) k_11_5 (by decide)
            refine lv_tableOut (tgt := 79) hx hb dX2_rule_11 (by omega) (by decide) ?_
            refine lv_iconst (v := (-1)) hx hb dX2_rule_79 (by decide) ?_
            exact ro_iret hx hb hr hS hlocks (show s_X2_rule n hd fi un on k what = (-1) from by (unfold s_X2_rule; (try dsimp only); (try rw [if_neg c_5_1]); (try rw [if_neg k_11_2]); (try rw [if_neg k_11_3]); (try rw [if_neg k_11_4]); (try rw [if_neg k_11_5]); first | done | rfl)).symm dX2_rule_80
  · refine lv_iconst (v := (-1)) hx hb dX2_rule_8 (by decide) ?_
    exact ro_iret hx hb hr hS hlocks (show s_X2_rule n hd fi un on k what = (-1) from by (unfold s_X2_rule; (try dsimp only); (try rw [if_pos c_5_1]); first | done | rfl)).symm dX2_rule_9

def f_X2_sets_4 (n : Nat) (may : Int32) (hd : Nat → Int32) (fi : Nat → Int32) (un : Nat → Int32) (on : Int32) (asd : Int32) (j4 : Nat) (st : Int32) : Int32 := match st with | many => (if (s_X0_upholds n may hd fi un (nI j4) on asd) = 0 then many else (many + 1))
def s_X2_sets (n : Nat) (may : Int32) (hd : Nat → Int32) (fi : Nat → Int32) (un : Nat → Int32) (on : Int32) (asd : Int32) : Int32 := (match itr (f_X2_sets_4 n may hd fi un on asd) 0 256 with | many => many)
set_option maxHeartbeats 4000000 in
set_option maxRecDepth 100000 in
theorem c_X2_sets (l : Launch) (D : va_G) (h : Nat → Nat) (cA : Nat → ClassId) (n : Nat) (by_ : Nat → Int32) (ln : Int32) (pl : Int32) (tk : Int32) (tp : Int32) (may : Int32) (hd : Nat → Int32) (fi : Nat → Int32) (un : Nat → Int32) (sz2 : Int32) (may2 : Int32) (hd2 : Nat → Int32) (fi2 : Nat → Int32) (un2 : Nat → Int32) (on : Int32) (asd : Int32) (io : Nat → Int32) (ia : Nat → Int32) (kept : Int32) (tr : Int64) (hn : n ≤ 10) (sz : Nat) : Met l yX2_sets wsX2_sets ({ frames := 4, cells := 0, slots := 0, locals := 97 }) (va_Pc [.ref (h 0)] (cPre D (tX h cA) (wX h cA by_ ln pl tk tp (nI n) may hd fi un sz2 may2 hd2 fi2 un2 on asd io ia kept tr) sz)) (va_Qi (fun r (_ : Unit) => r = s_X2_sets n may hd fi un on asd) (fun _ _ => True) (fun q => sz ≤ q)) 0 0 (fun q => sz ≤ q) := by
  refine Met.ofW (cc := cX2_sets) (maxL := 3) (ret := (some .int)) (by decide) rfl ?_
  intro p e s m args below meth c s₁ B hml hv
  obtain ⟨rfl, hsz, hP, hK, hD, hN⟩ := hv
  have hx := B.exec
  have hb := B.bytes
  have hr := B.returns
  have hts := atoms_spec (ws := wsX2_sets) B.pre
  have hown : s.vm.findClass RX2 = some m.cls := findClass_of_methodNamed B.named
  have hlocks := B.notSynchronized
  have hinX2 : ∀ w ∈ wsX20, w ∈ wsX2_sets := fun w h => List.mem_cons_of_mem _ (List.mem_append_left _ (List.mem_append_right _ h))
  subst hsz
  obtain ⟨A, hAe⟩ : ∃ A : Nat → Prop, A = (fun q : Nat => s.heap.size ≤ q) := ⟨_, rfl⟩
  have hA : ∀ q : Nat, s.heap.size ≤ q → A q := fun q h => by rw [hAe]; exact h
  have hS : va_S A s.heap s.heap [] := va_S.rf
  subst hAe
  have hl := lv_entry ([.ref (h 0)]) (n := 3) (Nat.le_of_ble_eq_true rfl)
  rw [lg_entry_eq]
  generalize (lg_sl ([.ref (h 0)]) ++ List.replicate (3 - (lg_sl ([.ref (h 0)])).length) Slot.unset).toArray = ls at hl ⊢
  replace hl : lv_has ls 3 [(0, .ref (h 0))] := hl
  have hKe := hK.sub (tys' := []) [] rfl
  refine lv_iconst (v := 0) hx hb dX2_sets_0 (by decide) ?_
  refine lv_istore_n (lv' := [(1, .int 0), (0, .ref (h 0))]) hx hb dX2_sets_1 rfl hl (by decide) rfl (fun ls hl => ?_)
  refine lv_iconst (v := 0) hx hb dX2_sets_2 (by decide) ?_
  refine lv_istore_n (lv' := [(2, .int 0), (1, .int 0), (0, .ref (h 0))]) hx hb dX2_sets_3 rfl hl (by decide) rfl (fun ls hl => ?_)
  have lp4_1 : ∀ (z_1 j4 : Nat), j4 + z_1 = 256 → ∀ (many : Int32), many = itr (f_X2_sets_4 n may hd fi un on asd) 0 j4 → ∀  (H : Heap) (locs : List Loc), va_P D vwCl (wX h cA by_ ln pl tk tp (nI n) may hd fi un sz2 may2 hd2 fi2 un2 on asd io ia kept tr) H → va_S (fun q : Nat => s.heap.size ≤ q) s.heap H locs → ∀ ls : Array Slot, lv_has ls 3 [(0, .ref (h 0)), (1, .int many), (2, .int (nI j4))] → W p l e (headSpec wsX2_sets ({ frames := 4, cells := 0, slots := 0, locals := 97 })).room s m ([.ref (h 0)] : List Value).toArray below meth c H locs 0 0 (MQ below (va_Qi (fun r (_ : Unit) => r = s_X2_sets n may hd fi un on asd) (fun _ _ => True) (fun q => s.heap.size ≤ q)) ([.ref (h 0)] : List Value).toArray s 0 0 (fun q => s.heap.size ≤ q)) (F0 m 4 ls []) := by
    intro z_1
    induction z_1 with
    | zero =>
      intro j4 hj4 many he4   H locs hP hS ls hl
      obtain rfl : 256 = j4 := by omega
      refine lv_iload_n hx hb dX2_sets_4 rfl (lv_at hl 2 rfl) ?_
      refine lv_sipush (v := 255) hx hb dX2_sets_5 (by decide) ?_
      refine lv_icmp_gt (tgt := 39) hx hb dX2_sets_8 (by decide) (fun _ => ?_) (fun hh_3 => absurd (nI_lt (a := 255) (b := 256) (by omega) (by omega)) hh_3)
      refine lv_iload_n hx hb dX2_sets_39 rfl (lv_at hl 1 rfl) ?_
      exact ro_iret hx hb hr hS hlocks (show s_X2_sets n may hd fi un on asd = many from by (unfold s_X2_sets; (try dsimp only); (try rw [← he4]); (try dsimp only); first | done | rfl)).symm dX2_sets_40
    | succ z_1 ih4 =>
      intro j4 hj4 many he4   H locs hP hS ls hl
      refine lv_iload_n hx hb dX2_sets_4 rfl (lv_at hl 2 rfl) ?_
      refine lv_sipush (v := 255) hx hb dX2_sets_5 (by decide) ?_
      refine lv_icmp_gt (tgt := 39) hx hb dX2_sets_8 (by decide) (fun hh_5 => absurd hh_5 (nI_nlt (a := 255) (b := j4) (by omega) (by omega))) (fun _ => ?_)
      refine lv_aload_n hx hb dX2_sets_11 rfl (lv_at hl 0 rfl) ?_
      refine va_get (D := D) (ci := 2) (v := .ref (h 3)) (C := RX2) (T := TX2) (N := 9) hx hb hts hinX2 hown hK hP 0 rfl rfl 1 (by decide) (hts (.fieldLink RX2 19 "HoldUnless" "book" "LHoldUnless$RuleBook;") (by decide +kernel)) (fun _ h9 => h9) rfl dX2_sets_12 ?_
      refine lv_iload_n hx hb dX2_sets_15 rfl (lv_at hl 2 rfl) ?_
      refine lv_aload_n hx hb dX2_sets_16 rfl (lv_at hl 0 rfl) ?_
      refine va_get (D := D) (ci := 2) (v := .int on) (C := RX2) (T := TX2) (N := 9) hx hb hts hinX2 hown hK hP 0 rfl rfl 3 (by decide) (hts (.fieldLink RX2 51 "HoldUnless" "on" "I") (by decide +kernel)) (fun _ h9 => h9) rfl dX2_sets_17 ?_
      refine lv_aload_n hx hb dX2_sets_20 rfl (lv_at hl 0 rfl) ?_
      refine va_get (D := D) (ci := 2) (v := .int asd) (C := RX2) (T := TX2) (N := 9) hx hb hts hinX2 hown hK hP 0 rfl rfl 4 (by decide) (hts (.fieldLink RX2 54 "HoldUnless" "assumed" "I") (by decide +kernel)) (fun _ h9 => h9) rfl dX2_sets_21 ?_
      have hPc := hP.sub (ws' := (wB (h 3) (h 4) (h 5) (h 6) (cA 4) (cA 5) (cA 6) (nI n) may hd fi un)) [3, 4, 5, 6] rfl
      have hDc := hD.sub (ws' := (wB (h 3) (h 4) (h 5) (h 6) (cA 4) (cA 5) (cA 6) (nI n) may hd fi un)) [3, 4, 5, 6] (by decide) rfl
      have hKc := hK.sub (tys' := (tB (h 3) (h 4) (h 5) (h 6) (cA 4) (cA 5) (cA 6))) [1, 2, 3] rfl
      refine ro_i (D := D) (va_runVN (As := [.int (nI j4), .int on, .int asd]) (rest := []) ⟨hx, hb, hml, hown, hts⟩ (c_X0_upholds l D (h 3) (h 4) (h 5) (h 6) (cA 4) (cA 5) (cA 6) n may hd fi un (nI j4) on asd (by first | assumption | omega) _) ⟨(va_cnB 3 hts gX2_sets_X0_upholds_n87 rfl rfl rfl (hN.nw 8 rfl) (hts (.initialized RX0) (by decide +kernel)) (by decide +kernel) ⟨Nat.le_of_ble_eq_true rfl, Nat.le_of_ble_eq_true rfl⟩), hts (.instanceMethod yX0_upholds) (by decide +kernel), hts (.selects RX0 yX0_upholds yX0_upholds) (by decide +kernel)⟩ ⟨cPre.blind, va_recv hKc hPc (ci := 0) (q0 := 0) rfl rfl, cPre.mk hPc hKc hDc hN⟩ rfl rfl hl.1 rfl (lv_room (Nat.le_of_ble_eq_true rfl)) dX2_sets_24 ⟨Nat.zero_le _, Nat.zero_le _⟩) hS hA (fun H locs hkp0 hS => ?_)
      replace hP := hkp0 _ hP
      refine lv_if_eq (tgt := 33) hx hb dX2_sets_27 (by decide) (fun c_27_6 => ?_) (fun c_27_6 => ?_)
      · refine lv_iinc (v := nI (j4 + 1)) (lv' := [(2, .int (nI (j4 + 1))), (0, .ref (h 0)), (1, .int many)]) hx hb dX2_sets_33 hl (k := 2) rfl (inc_nI j4) (by decide) rfl (fun ls hl => ?_)
        refine lv_goto (tgt := 4) hx hb dX2_sets_36 (by decide) ?_
        exact ih4 (j4 + 1) (by omega) many (itr_step he4 (by (unfold f_X2_sets_4; (try dsimp only); (try rw [if_pos c_27_6]); first | done | rfl)))   _ _ hP hS _ (lv_sub hl [1, 2, 0] rfl)
      · refine lv_iinc (v := (many + 1)) (lv' := [(1, .int (many + 1)), (0, .ref (h 0)), (2, .int (nI j4))]) hx hb dX2_sets_30 hl (k := 1) rfl rfl (by decide) rfl (fun ls hl => ?_)
        refine lv_iinc (v := nI (j4 + 1)) (lv' := [(2, .int (nI (j4 + 1))), (1, .int (many + 1)), (0, .ref (h 0))]) hx hb dX2_sets_33 hl (k := 2) rfl (inc_nI j4) (by decide) rfl (fun ls hl => ?_)
        refine lv_goto (tgt := 4) hx hb dX2_sets_36 (by decide) ?_
        exact ih4 (j4 + 1) (by omega) (many + 1) (itr_step he4 (by (unfold f_X2_sets_4; (try dsimp only); (try rw [if_neg c_27_6]); first | done | rfl)))   _ _ hP hS _ (lv_sub hl [2, 1, 0] rfl)
  exact lp4_1 256 0 (by omega) 0 (itr_zero _ _).symm   _ _ hP hS _ (lv_sub hl [2, 1, 0] rfl)

def f_X2_standingSet_4 (n : Nat) (may : Int32) (hd : Nat → Int32) (fi : Nat → Int32) (un : Nat → Int32) (on : Int32) (asd : Int32) (i : Int32) (j4 : Nat) (st : Int32) : Int32 ⊕ (Int32) := match st with | ahead => (if (s_X0_upholds n may hd fi un (nI j4) on asd) = 0 then (.inr ahead) else (if ahead = i then (.inl (nI j4)) else (.inr (ahead + 1))))
def s_X2_standingSet (n : Nat) (may : Int32) (hd : Nat → Int32) (fi : Nat → Int32) (un : Nat → Int32) (on : Int32) (asd : Int32) (i : Int32) : Int32 := (onE (itE (f_X2_standingSet_4 n may hd fi un on asd i) 0 256) (fun st => match st with | ahead => (-9)))
set_option maxHeartbeats 4000000 in
set_option maxRecDepth 100000 in
theorem c_X2_standingSet (l : Launch) (D : va_G) (h : Nat → Nat) (cA : Nat → ClassId) (n : Nat) (by_ : Nat → Int32) (ln : Int32) (pl : Int32) (tk : Int32) (tp : Int32) (may : Int32) (hd : Nat → Int32) (fi : Nat → Int32) (un : Nat → Int32) (sz2 : Int32) (may2 : Int32) (hd2 : Nat → Int32) (fi2 : Nat → Int32) (un2 : Nat → Int32) (on : Int32) (asd : Int32) (io : Nat → Int32) (ia : Nat → Int32) (kept : Int32) (tr : Int64) (i : Int32) (hn : n ≤ 10) (sz : Nat) : Met l yX2_standingSet wsX2_standingSet ({ frames := 4, cells := 0, slots := 0, locals := 97 }) (va_Pc [.ref (h 0), .int i] (cPre D (tX h cA) (wX h cA by_ ln pl tk tp (nI n) may hd fi un sz2 may2 hd2 fi2 un2 on asd io ia kept tr) sz)) (va_Qi (fun r (_ : Unit) => r = s_X2_standingSet n may hd fi un on asd i) (fun _ _ => True) (fun q => sz ≤ q)) 0 0 (fun q => sz ≤ q) := by
  refine Met.ofW (cc := cX2_standingSet) (maxL := 4) (ret := (some .int)) (by decide) rfl ?_
  intro p e s m args below meth c s₁ B hml hv
  obtain ⟨rfl, hsz, hP, hK, hD, hN⟩ := hv
  have hx := B.exec
  have hb := B.bytes
  have hr := B.returns
  have hts := atoms_spec (ws := wsX2_standingSet) B.pre
  have hown : s.vm.findClass RX2 = some m.cls := findClass_of_methodNamed B.named
  have hlocks := B.notSynchronized
  have hinX2 : ∀ w ∈ wsX20, w ∈ wsX2_standingSet := fun w h => List.mem_cons_of_mem _ (List.mem_append_left _ (List.mem_append_right _ h))
  subst hsz
  obtain ⟨A, hAe⟩ : ∃ A : Nat → Prop, A = (fun q : Nat => s.heap.size ≤ q) := ⟨_, rfl⟩
  have hA : ∀ q : Nat, s.heap.size ≤ q → A q := fun q h => by rw [hAe]; exact h
  have hS : va_S A s.heap s.heap [] := va_S.rf
  subst hAe
  have hl := lv_entry ([.ref (h 0), .int i]) (n := 4) (Nat.le_of_ble_eq_true rfl)
  rw [lg_entry_eq]
  generalize (lg_sl ([.ref (h 0), .int i]) ++ List.replicate (4 - (lg_sl ([.ref (h 0), .int i])).length) Slot.unset).toArray = ls at hl ⊢
  replace hl : lv_has ls 4 [(0, .ref (h 0)), (1, .int i)] := hl
  have hKe := hK.sub (tys' := []) [] rfl
  refine lv_iconst (v := 0) hx hb dX2_standingSet_0 (by decide) ?_
  refine lv_istore_n (lv' := [(2, .int 0), (0, .ref (h 0)), (1, .int i)]) hx hb dX2_standingSet_1 rfl hl (by decide) rfl (fun ls hl => ?_)
  refine lv_iconst (v := 0) hx hb dX2_standingSet_2 (by decide) ?_
  refine lv_istore_n (lv' := [(3, .int 0), (2, .int 0), (0, .ref (h 0)), (1, .int i)]) hx hb dX2_standingSet_3 rfl hl (by decide) rfl (fun ls hl => ?_)
  have lp4_1 : ∀ (z_1 j4 : Nat), j4 + z_1 = 256 → ∀ (ahead : Int32), itE (f_X2_standingSet_4 n may hd fi un on asd i) 0 j4 = .inr ahead → ∀  (H : Heap) (locs : List Loc), va_P D vwCl (wX h cA by_ ln pl tk tp (nI n) may hd fi un sz2 may2 hd2 fi2 un2 on asd io ia kept tr) H → va_S (fun q : Nat => s.heap.size ≤ q) s.heap H locs → ∀ ls : Array Slot, lv_has ls 4 [(0, .ref (h 0)), (1, .int i), (2, .int ahead), (3, .int (nI j4))] → W p l e (headSpec wsX2_standingSet ({ frames := 4, cells := 0, slots := 0, locals := 97 })).room s m ([.ref (h 0), .int i] : List Value).toArray below meth c H locs 0 0 (MQ below (va_Qi (fun r (_ : Unit) => r = s_X2_standingSet n may hd fi un on asd i) (fun _ _ => True) (fun q => s.heap.size ≤ q)) ([.ref (h 0), .int i] : List Value).toArray s 0 0 (fun q => s.heap.size ≤ q)) (F0 m 4 ls []) := by
    intro z_1
    induction z_1 with
    | zero =>
      intro j4 hj4 ahead he4   H locs hP hS ls hl
      obtain rfl : 256 = j4 := by omega
      refine lv_iload_n hx hb dX2_standingSet_4 rfl (lv_at hl 3 rfl) ?_
      refine lv_sipush (v := 255) hx hb dX2_standingSet_5 (by decide) ?_
      refine lv_icmp_gt (tgt := 46) hx hb dX2_standingSet_8 (by decide) (fun _ => ?_) (fun hh_3 => absurd (nI_lt (a := 255) (b := 256) (by omega) (by omega)) hh_3)
      refine lv_bipush (v := (-9)) hx hb dX2_standingSet_46 (by decide) ?_
      exact ro_iret hx hb hr hS hlocks (show s_X2_standingSet n may hd fi un on asd i = (-9) from by (unfold s_X2_standingSet; (try dsimp only); (try rw [he4]); (try dsimp only [onE]); first | done | rfl)).symm dX2_standingSet_48
    | succ z_1 ih4 =>
      intro j4 hj4 ahead he4   H locs hP hS ls hl
      refine lv_iload_n hx hb dX2_standingSet_4 rfl (lv_at hl 3 rfl) ?_
      refine lv_sipush (v := 255) hx hb dX2_standingSet_5 (by decide) ?_
      refine lv_icmp_gt (tgt := 46) hx hb dX2_standingSet_8 (by decide) (fun hh_5 => absurd hh_5 (nI_nlt (a := 255) (b := j4) (by omega) (by omega))) (fun _ => ?_)
      refine lv_aload_n hx hb dX2_standingSet_11 rfl (lv_at hl 0 rfl) ?_
      refine va_get (D := D) (ci := 2) (v := .ref (h 3)) (C := RX2) (T := TX2) (N := 9) hx hb hts hinX2 hown hK hP 0 rfl rfl 1 (by decide) (hts (.fieldLink RX2 19 "HoldUnless" "book" "LHoldUnless$RuleBook;") (by decide +kernel)) (fun _ h9 => h9) rfl dX2_standingSet_12 ?_
      refine lv_iload_n hx hb dX2_standingSet_15 rfl (lv_at hl 3 rfl) ?_
      refine lv_aload_n hx hb dX2_standingSet_16 rfl (lv_at hl 0 rfl) ?_
      refine va_get (D := D) (ci := 2) (v := .int on) (C := RX2) (T := TX2) (N := 9) hx hb hts hinX2 hown hK hP 0 rfl rfl 3 (by decide) (hts (.fieldLink RX2 51 "HoldUnless" "on" "I") (by decide +kernel)) (fun _ h9 => h9) rfl dX2_standingSet_17 ?_
      refine lv_aload_n hx hb dX2_standingSet_20 rfl (lv_at hl 0 rfl) ?_
      refine va_get (D := D) (ci := 2) (v := .int asd) (C := RX2) (T := TX2) (N := 9) hx hb hts hinX2 hown hK hP 0 rfl rfl 4 (by decide) (hts (.fieldLink RX2 54 "HoldUnless" "assumed" "I") (by decide +kernel)) (fun _ h9 => h9) rfl dX2_standingSet_21 ?_
      have hPc := hP.sub (ws' := (wB (h 3) (h 4) (h 5) (h 6) (cA 4) (cA 5) (cA 6) (nI n) may hd fi un)) [3, 4, 5, 6] rfl
      have hDc := hD.sub (ws' := (wB (h 3) (h 4) (h 5) (h 6) (cA 4) (cA 5) (cA 6) (nI n) may hd fi un)) [3, 4, 5, 6] (by decide) rfl
      have hKc := hK.sub (tys' := (tB (h 3) (h 4) (h 5) (h 6) (cA 4) (cA 5) (cA 6))) [1, 2, 3] rfl
      refine ro_i (D := D) (va_runVN (As := [.int (nI j4), .int on, .int asd]) (rest := []) ⟨hx, hb, hml, hown, hts⟩ (c_X0_upholds l D (h 3) (h 4) (h 5) (h 6) (cA 4) (cA 5) (cA 6) n may hd fi un (nI j4) on asd (by first | assumption | omega) _) ⟨(va_cnB 3 hts gX2_standingSet_X0_upholds_n87 rfl rfl rfl (hN.nw 8 rfl) (hts (.initialized RX0) (by decide +kernel)) (by decide +kernel) ⟨Nat.le_of_ble_eq_true rfl, Nat.le_of_ble_eq_true rfl⟩), hts (.instanceMethod yX0_upholds) (by decide +kernel), hts (.selects RX0 yX0_upholds yX0_upholds) (by decide +kernel)⟩ ⟨cPre.blind, va_recv hKc hPc (ci := 0) (q0 := 0) rfl rfl, cPre.mk hPc hKc hDc hN⟩ rfl rfl hl.1 rfl (lv_room (Nat.le_of_ble_eq_true rfl)) dX2_standingSet_24 ⟨Nat.zero_le _, Nat.zero_le _⟩) hS hA (fun H locs hkp0 hS => ?_)
      replace hP := hkp0 _ hP
      refine lv_if_eq (tgt := 40) hx hb dX2_standingSet_27 (by decide) (fun c_27_6 => ?_) (fun c_27_6 => ?_)
      · refine lv_iinc (v := nI (j4 + 1)) (lv' := [(3, .int (nI (j4 + 1))), (0, .ref (h 0)), (1, .int i), (2, .int ahead)]) hx hb dX2_standingSet_40 hl (k := 3) rfl (inc_nI j4) (by decide) rfl (fun ls hl => ?_)
        refine lv_goto (tgt := 4) hx hb dX2_standingSet_43 (by decide) ?_
        exact ih4 (j4 + 1) (by omega) ahead (itE_succ he4 (by (unfold f_X2_standingSet_4; (try dsimp only); (try rw [if_pos c_27_6]); first | done | rfl)))   _ _ hP hS _ (lv_sub hl [1, 2, 3, 0] rfl)
      · refine lv_iload_n hx hb dX2_standingSet_30 rfl (lv_at hl 2 rfl) ?_
        refine lv_iload_n hx hb dX2_standingSet_31 rfl (lv_at hl 1 rfl) ?_
        refine lv_icmp_ne (tgt := 37) hx hb dX2_standingSet_32 (by decide) (fun c_32_7 => ?_) (fun c_32_7 => ?_)
        · refine lv_iinc (v := (ahead + 1)) (lv' := [(2, .int (ahead + 1)), (0, .ref (h 0)), (1, .int i), (3, .int (nI j4))]) hx hb dX2_standingSet_37 hl (k := 2) rfl rfl (by decide) rfl (fun ls hl => ?_)
          refine lv_iinc (v := nI (j4 + 1)) (lv' := [(3, .int (nI (j4 + 1))), (2, .int (ahead + 1)), (0, .ref (h 0)), (1, .int i)]) hx hb dX2_standingSet_40 hl (k := 3) rfl (inc_nI j4) (by decide) rfl (fun ls hl => ?_)
          refine lv_goto (tgt := 4) hx hb dX2_standingSet_43 (by decide) ?_
          exact ih4 (j4 + 1) (by omega) (ahead + 1) (itE_succ he4 (by (unfold f_X2_standingSet_4; (try dsimp only); (try rw [if_neg c_27_6]); (try rw [if_neg c_32_7]); first | done | rfl)))   _ _ hP hS _ (lv_sub hl [2, 3, 1, 0] rfl)
        · refine lv_iload_n hx hb dX2_standingSet_35 rfl (lv_at hl 3 rfl) ?_
          have hs_8 : itE (f_X2_standingSet_4 n may hd fi un on asd i) 0 (j4 + 1) = (.inl (nI j4)) := itE_succ he4 (by (unfold f_X2_standingSet_4; (try dsimp only); (try rw [if_neg c_27_6]); (try rw [if_pos c_32_7]); first | done | rfl))
          have hn_9 := itE_stop hs_8 256 (by omega)
          exact ro_iret hx hb hr hS hlocks (show s_X2_standingSet n may hd fi un on asd i = nI j4 from by (unfold s_X2_standingSet; (try dsimp only); (try rw [hn_9]); (try dsimp only [onE]); first | done | rfl)).symm dX2_standingSet_36
  exact lp4_1 256 0 (by omega) 0 (itE_zero _ _)   _ _ hP hS _ (lv_sub hl [2, 3, 1, 0] rfl)

def s_X2_set (n : Nat) (may : Int32) (hd : Nat → Int32) (fi : Nat → Int32) (un : Nat → Int32) (on : Int32) (asd : Int32) (i : Int32) : Int32 := (if 0 ≤ i then (s_X2_standingSet n may hd fi un on asd i) else (-1))
set_option maxHeartbeats 4000000 in
set_option maxRecDepth 100000 in
theorem c_X2_set (l : Launch) (D : va_G) (h : Nat → Nat) (cA : Nat → ClassId) (n : Nat) (by_ : Nat → Int32) (ln : Int32) (pl : Int32) (tk : Int32) (tp : Int32) (may : Int32) (hd : Nat → Int32) (fi : Nat → Int32) (un : Nat → Int32) (sz2 : Int32) (may2 : Int32) (hd2 : Nat → Int32) (fi2 : Nat → Int32) (un2 : Nat → Int32) (on : Int32) (asd : Int32) (io : Nat → Int32) (ia : Nat → Int32) (kept : Int32) (tr : Int64) (i : Int32) (hn : n ≤ 10) (sz : Nat) : Met l yX2_set wsX2_set ({ frames := 5, cells := 0, slots := 0, locals := 120 }) (va_Pc [.ref (h 0), .int i] (cPre D (tX h cA) (wX h cA by_ ln pl tk tp (nI n) may hd fi un sz2 may2 hd2 fi2 un2 on asd io ia kept tr) sz)) (va_Qi (fun r (_ : Unit) => r = s_X2_set n may hd fi un on asd i) (fun _ _ => True) (fun q => sz ≤ q)) 0 0 (fun q => sz ≤ q) := by
  refine Met.ofW (cc := cX2_set) (maxL := 2) (ret := (some .int)) (by decide) rfl ?_
  intro p e s m args below meth c s₁ B hml hv
  obtain ⟨rfl, hsz, hP, hK, hD, hN⟩ := hv
  have hx := B.exec
  have hb := B.bytes
  have hr := B.returns
  have hts := atoms_spec (ws := wsX2_set) B.pre
  have hown : s.vm.findClass RX2 = some m.cls := findClass_of_methodNamed B.named
  have hlocks := B.notSynchronized
  subst hsz
  obtain ⟨A, hAe⟩ : ∃ A : Nat → Prop, A = (fun q : Nat => s.heap.size ≤ q) := ⟨_, rfl⟩
  have hA : ∀ q : Nat, s.heap.size ≤ q → A q := fun q h => by rw [hAe]; exact h
  have hS : va_S A s.heap s.heap [] := va_S.rf
  subst hAe
  have hl := lv_entry ([.ref (h 0), .int i]) (n := 2) (Nat.le_of_ble_eq_true rfl)
  rw [lg_entry_eq]
  generalize (lg_sl ([.ref (h 0), .int i]) ++ List.replicate (2 - (lg_sl ([.ref (h 0), .int i])).length) Slot.unset).toArray = ls at hl ⊢
  replace hl : lv_has ls 2 [(0, .ref (h 0)), (1, .int i)] := hl
  have hKe := hK.sub (tys' := []) [] rfl
  refine lv_iload_n hx hb dX2_set_0 rfl (lv_at hl 1 rfl) ?_
  refine lv_if_ge (tgt := 8) hx hb dX2_set_1 (by decide) (fun c_1_1 => ?_) (fun c_1_1 => ?_)
  · refine lv_aload_n hx hb dX2_set_8 rfl (lv_at hl 0 rfl) ?_
    refine lv_iload_n hx hb dX2_set_9 rfl (lv_at hl 1 rfl) ?_
    refine ro_i (D := D) (va_runV (As := [.int i]) (rest := []) ⟨hx, hb, hml, hown, hts⟩ (c_X2_standingSet l D h cA n by_ ln pl tk tp may hd fi un sz2 may2 hd2 fi2 un2 on asd io ia kept tr i (by first | assumption | omega) _) (cwV 1 hts gX2_set_X2_standingSet rfl rfl rfl (by decide +kernel) ⟨Nat.le_of_ble_eq_true rfl, Nat.le_of_ble_eq_true rfl⟩) ⟨cPre.blind, va_recv hK hP (ci := 2) (q0 := 0) rfl rfl, cPre.mk hP hK hD hN⟩ rfl rfl hl.1 rfl (lv_room (Nat.le_of_ble_eq_true rfl)) dX2_set_10 ⟨Nat.zero_le _, Nat.zero_le _⟩) hS hA (fun H locs hkp0 hS => ?_)
    replace hP := hkp0 _ hP
    exact ro_iret hx hb hr hS hlocks (show s_X2_set n may hd fi un on asd i = (s_X2_standingSet n may hd fi un on asd i) from by (unfold s_X2_set; (try dsimp only); (try rw [if_pos c_1_1]); first | done | rfl)).symm dX2_set_13
  · refine lv_iconst (v := (-1)) hx hb dX2_set_4 (by decide) ?_
    refine lv_goto (tgt := 13) hx hb dX2_set_5 (by decide) ?_
    exact ro_iret hx hb hr hS hlocks (show s_X2_set n may hd fi un on asd i = (-1) from by (unfold s_X2_set; (try dsimp only); (try rw [if_neg c_1_1]); first | done | rfl)).symm dX2_set_13

def s_X2_stands (n : Nat) (may : Int32) (hd : Nat → Int32) (fi : Nat → Int32) (un : Nat → Int32) (on : Int32) (asd : Int32) (set : Int32) : Int32 := (if (s_X2_isSet set) = 0 then (-1) else (if (s_X0_upholds n may hd fi un set on asd) = 0 then 0 else 1))
set_option maxHeartbeats 4000000 in
set_option maxRecDepth 100000 in
theorem c_X2_stands (l : Launch) (D : va_G) (h : Nat → Nat) (cA : Nat → ClassId) (n : Nat) (by_ : Nat → Int32) (ln : Int32) (pl : Int32) (tk : Int32) (tp : Int32) (may : Int32) (hd : Nat → Int32) (fi : Nat → Int32) (un : Nat → Int32) (sz2 : Int32) (may2 : Int32) (hd2 : Nat → Int32) (fi2 : Nat → Int32) (un2 : Nat → Int32) (on : Int32) (asd : Int32) (io : Nat → Int32) (ia : Nat → Int32) (kept : Int32) (tr : Int64) (set : Int32) (hn : n ≤ 10) (sz : Nat) : Met l yX2_stands wsX2_stands ({ frames := 4, cells := 0, slots := 0, locals := 97 }) (va_Pc [.ref (h 0), .int set] (cPre D (tX h cA) (wX h cA by_ ln pl tk tp (nI n) may hd fi un sz2 may2 hd2 fi2 un2 on asd io ia kept tr) sz)) (va_Qi (fun r (_ : Unit) => r = s_X2_stands n may hd fi un on asd set) (fun _ _ => True) (fun q => sz ≤ q)) 0 0 (fun q => sz ≤ q) := by
  refine Met.ofW (cc := cX2_stands) (maxL := 2) (ret := (some .int)) (by decide) rfl ?_
  intro p e s m args below meth c s₁ B hml hv
  obtain ⟨rfl, hsz, hP, hK, hD, hN⟩ := hv
  have hx := B.exec
  have hb := B.bytes
  have hr := B.returns
  have hts := atoms_spec (ws := wsX2_stands) B.pre
  have hown : s.vm.findClass RX2 = some m.cls := findClass_of_methodNamed B.named
  have hlocks := B.notSynchronized
  have hinX2 : ∀ w ∈ wsX20, w ∈ wsX2_stands := fun w h => List.mem_cons_of_mem _ (List.mem_append_left _ (List.mem_append_right _ h))
  subst hsz
  obtain ⟨A, hAe⟩ : ∃ A : Nat → Prop, A = (fun q : Nat => s.heap.size ≤ q) := ⟨_, rfl⟩
  have hA : ∀ q : Nat, s.heap.size ≤ q → A q := fun q h => by rw [hAe]; exact h
  have hS : va_S A s.heap s.heap [] := va_S.rf
  subst hAe
  have hl := lv_entry ([.ref (h 0), .int set]) (n := 2) (Nat.le_of_ble_eq_true rfl)
  rw [lg_entry_eq]
  generalize (lg_sl ([.ref (h 0), .int set]) ++ List.replicate (2 - (lg_sl ([.ref (h 0), .int set])).length) Slot.unset).toArray = ls at hl ⊢
  replace hl : lv_has ls 2 [(0, .ref (h 0)), (1, .int set)] := hl
  have hKe := hK.sub (tys' := []) [] rfl
  refine lv_iload_n hx hb dX2_stands_0 rfl (lv_at hl 1 rfl) ?_
  refine ro_i (D := D) (va_runS (As := [.int set]) (rest := []) ⟨hx, hb, hml, hown, hts⟩ (c_X2_isSet l D set  _) (va_cwS 1 hts gX2_stands_X2_isSet rfl rfl rfl (by decide +kernel) ⟨Nat.le_of_ble_eq_true rfl, Nat.le_of_ble_eq_true rfl⟩) ⟨cPre.blind, cPre.mk vP0 hKe vD0 hN⟩ rfl rfl hl.1 rfl (lv_room (Nat.le_of_ble_eq_true rfl)) dX2_stands_1 ⟨Nat.zero_le _, Nat.zero_le _⟩) hS hA (fun H locs hkp0 hS => ?_)
  replace hP := hkp0 _ hP
  refine lv_if_ne (tgt := 9) hx hb dX2_stands_4 (by decide) (fun c_4_1 => ?_) (fun c_4_1 => ?_)
  · refine lv_aload_n hx hb dX2_stands_9 rfl (lv_at hl 0 rfl) ?_
    refine va_get (D := D) (ci := 2) (v := .ref (h 3)) (C := RX2) (T := TX2) (N := 9) hx hb hts hinX2 hown hK hP 0 rfl rfl 1 (by decide) (hts (.fieldLink RX2 19 "HoldUnless" "book" "LHoldUnless$RuleBook;") (by decide +kernel)) (fun _ h9 => h9) rfl dX2_stands_10 ?_
    refine lv_iload_n hx hb dX2_stands_13 rfl (lv_at hl 1 rfl) ?_
    refine lv_aload_n hx hb dX2_stands_14 rfl (lv_at hl 0 rfl) ?_
    refine va_get (D := D) (ci := 2) (v := .int on) (C := RX2) (T := TX2) (N := 9) hx hb hts hinX2 hown hK hP 0 rfl rfl 3 (by decide) (hts (.fieldLink RX2 51 "HoldUnless" "on" "I") (by decide +kernel)) (fun _ h9 => h9) rfl dX2_stands_15 ?_
    refine lv_aload_n hx hb dX2_stands_18 rfl (lv_at hl 0 rfl) ?_
    refine va_get (D := D) (ci := 2) (v := .int asd) (C := RX2) (T := TX2) (N := 9) hx hb hts hinX2 hown hK hP 0 rfl rfl 4 (by decide) (hts (.fieldLink RX2 54 "HoldUnless" "assumed" "I") (by decide +kernel)) (fun _ h9 => h9) rfl dX2_stands_19 ?_
    have hPc := hP.sub (ws' := (wB (h 3) (h 4) (h 5) (h 6) (cA 4) (cA 5) (cA 6) (nI n) may hd fi un)) [3, 4, 5, 6] rfl
    have hDc := hD.sub (ws' := (wB (h 3) (h 4) (h 5) (h 6) (cA 4) (cA 5) (cA 6) (nI n) may hd fi un)) [3, 4, 5, 6] (by decide) rfl
    have hKc := hK.sub (tys' := (tB (h 3) (h 4) (h 5) (h 6) (cA 4) (cA 5) (cA 6))) [1, 2, 3] rfl
    refine ro_i (D := D) (va_runVN (As := [.int set, .int on, .int asd]) (rest := []) ⟨hx, hb, hml, hown, hts⟩ (c_X0_upholds l D (h 3) (h 4) (h 5) (h 6) (cA 4) (cA 5) (cA 6) n may hd fi un set on asd (by first | assumption | omega) _) ⟨(va_cnB 3 hts gX2_stands_X0_upholds_n87 rfl rfl rfl (hN.nw 8 rfl) (hts (.initialized RX0) (by decide +kernel)) (by decide +kernel) ⟨Nat.le_of_ble_eq_true rfl, Nat.le_of_ble_eq_true rfl⟩), hts (.instanceMethod yX0_upholds) (by decide +kernel), hts (.selects RX0 yX0_upholds yX0_upholds) (by decide +kernel)⟩ ⟨cPre.blind, va_recv hKc hPc (ci := 0) (q0 := 0) rfl rfl, cPre.mk hPc hKc hDc hN⟩ rfl rfl hl.1 rfl (lv_room (Nat.le_of_ble_eq_true rfl)) dX2_stands_22 ⟨Nat.zero_le _, Nat.zero_le _⟩) hS hA (fun H locs hkp0 hS => ?_)
    replace hP := hkp0 _ hP
    refine lv_if_eq (tgt := 32) hx hb dX2_stands_25 (by decide) (fun c_25_2 => ?_) (fun c_25_2 => ?_)
    · refine lv_iconst (v := 0) hx hb dX2_stands_32 (by decide) ?_
      exact ro_iret hx hb hr hS hlocks (show s_X2_stands n may hd fi un on asd set = 0 from by (unfold s_X2_stands; (try dsimp only); (try rw [if_neg c_4_1]); (try rw [if_pos c_25_2]); first | done | rfl)).symm dX2_stands_33
    · refine lv_iconst (v := 1) hx hb dX2_stands_28 (by decide) ?_
      refine lv_goto (tgt := 33) hx hb dX2_stands_29 (by decide) ?_
      exact ro_iret hx hb hr hS hlocks (show s_X2_stands n may hd fi un on asd set = 1 from by (unfold s_X2_stands; (try dsimp only); (try rw [if_neg c_4_1]); (try rw [if_neg c_25_2]); first | done | rfl)).symm dX2_stands_33
  · refine lv_iconst (v := (-1)) hx hb dX2_stands_7 (by decide) ?_
    exact ro_iret hx hb hr hS hlocks (show s_X2_stands n may hd fi un on asd set = (-1) from by (unfold s_X2_stands; (try dsimp only); (try rw [if_pos c_4_1]); first | done | rfl)).symm dX2_stands_8

def f_X2_holds_18 (n : Nat) (may : Int32) (hd : Nat → Int32) (fi : Nat → Int32) (un : Nat → Int32) (on : Int32) (asd : Int32) (j18 : Nat) (st : Int32 × Int32) : Int32 × Int32 := match st with | (inSome, inAll) => (if (s_X0_upholds n may hd fi un (nI j18) on asd) = 0 then (inSome, inAll) else ((inSome ||| (nI j18)), (inAll &&& (nI j18))))
def s_X2_holds (n : Nat) (may : Int32) (hd : Nat → Int32) (fi : Nat → Int32) (un : Nat → Int32) (on : Int32) (asd : Int32) (what : Int32) : Int32 := (if (s_X2_isBit what) = 0 then (-1) else (match itr (f_X2_holds_18 n may hd fi un on asd) (0, 255) 256 with | (inSome, inAll) => (if what = 0 then inSome else inAll)))
set_option maxHeartbeats 4000000 in
set_option maxRecDepth 100000 in
theorem c_X2_holds (l : Launch) (D : va_G) (h : Nat → Nat) (cA : Nat → ClassId) (n : Nat) (by_ : Nat → Int32) (ln : Int32) (pl : Int32) (tk : Int32) (tp : Int32) (may : Int32) (hd : Nat → Int32) (fi : Nat → Int32) (un : Nat → Int32) (sz2 : Int32) (may2 : Int32) (hd2 : Nat → Int32) (fi2 : Nat → Int32) (un2 : Nat → Int32) (on : Int32) (asd : Int32) (io : Nat → Int32) (ia : Nat → Int32) (kept : Int32) (tr : Int64) (what : Int32) (hn : n ≤ 10) (sz : Nat) : Met l yX2_holds wsX2_holds ({ frames := 4, cells := 0, slots := 0, locals := 97 }) (va_Pc [.ref (h 0), .int what] (cPre D (tX h cA) (wX h cA by_ ln pl tk tp (nI n) may hd fi un sz2 may2 hd2 fi2 un2 on asd io ia kept tr) sz)) (va_Qi (fun r (_ : Unit) => r = s_X2_holds n may hd fi un on asd what) (fun _ _ => True) (fun q => sz ≤ q)) 0 0 (fun q => sz ≤ q) := by
  refine Met.ofW (cc := cX2_holds) (maxL := 5) (ret := (some .int)) (by decide) rfl ?_
  intro p e s m args below meth c s₁ B hml hv
  obtain ⟨rfl, hsz, hP, hK, hD, hN⟩ := hv
  have hx := B.exec
  have hb := B.bytes
  have hr := B.returns
  have hts := atoms_spec (ws := wsX2_holds) B.pre
  have hown : s.vm.findClass RX2 = some m.cls := findClass_of_methodNamed B.named
  have hlocks := B.notSynchronized
  have hinX2 : ∀ w ∈ wsX20, w ∈ wsX2_holds := fun w h => List.mem_cons_of_mem _ (List.mem_append_left _ (List.mem_append_right _ h))
  subst hsz
  obtain ⟨A, hAe⟩ : ∃ A : Nat → Prop, A = (fun q : Nat => s.heap.size ≤ q) := ⟨_, rfl⟩
  have hA : ∀ q : Nat, s.heap.size ≤ q → A q := fun q h => by rw [hAe]; exact h
  have hS : va_S A s.heap s.heap [] := va_S.rf
  subst hAe
  have hl := lv_entry ([.ref (h 0), .int what]) (n := 5) (Nat.le_of_ble_eq_true rfl)
  rw [lg_entry_eq]
  generalize (lg_sl ([.ref (h 0), .int what]) ++ List.replicate (5 - (lg_sl ([.ref (h 0), .int what])).length) Slot.unset).toArray = ls at hl ⊢
  replace hl : lv_has ls 5 [(0, .ref (h 0)), (1, .int what)] := hl
  have hKe := hK.sub (tys' := []) [] rfl
  refine lv_iload_n hx hb dX2_holds_0 rfl (lv_at hl 1 rfl) ?_
  refine ro_i (D := D) (va_runS (As := [.int what]) (rest := []) ⟨hx, hb, hml, hown, hts⟩ (c_X2_isBit l D what  _) (va_cwS 1 hts gX2_holds_X2_isBit rfl rfl rfl (by decide +kernel) ⟨Nat.le_of_ble_eq_true rfl, Nat.le_of_ble_eq_true rfl⟩) ⟨cPre.blind, cPre.mk vP0 hKe vD0 hN⟩ rfl rfl hl.1 rfl (lv_room (Nat.le_of_ble_eq_true rfl)) dX2_holds_1 ⟨Nat.zero_le _, Nat.zero_le _⟩) hS hA (fun H locs hkp0 hS => ?_)
  replace hP := hkp0 _ hP
  refine lv_if_ne (tgt := 9) hx hb dX2_holds_4 (by decide) (fun c_4_1 => ?_) (fun c_4_1 => ?_)
  · refine lv_iconst (v := 0) hx hb dX2_holds_9 (by decide) ?_
    refine lv_istore_n (lv' := [(2, .int 0), (0, .ref (h 0)), (1, .int what)]) hx hb dX2_holds_10 rfl hl (by decide) rfl (fun ls hl => ?_)
    refine lv_sipush (v := 255) hx hb dX2_holds_11 (by decide) ?_
    refine lv_istore_n (lv' := [(3, .int 255), (2, .int 0), (0, .ref (h 0)), (1, .int what)]) hx hb dX2_holds_14 rfl hl (by decide) rfl (fun ls hl => ?_)
    refine lv_iconst (v := 0) hx hb dX2_holds_15 (by decide) ?_
    refine lv_istore (lv' := [(4, .int 0), (3, .int 255), (2, .int 0), (0, .ref (h 0)), (1, .int what)]) hx hb dX2_holds_16 hl (by decide) rfl (fun ls hl => ?_)
    have lp18_2 : ∀ (z_2 j18 : Nat), j18 + z_2 = 256 → ∀ (inSome : Int32) (inAll : Int32), (inSome, inAll) = itr (f_X2_holds_18 n may hd fi un on asd) (0, 255) j18 → ∀  (H : Heap) (locs : List Loc), va_P D vwCl (wX h cA by_ ln pl tk tp (nI n) may hd fi un sz2 may2 hd2 fi2 un2 on asd io ia kept tr) H → va_S (fun q : Nat => s.heap.size ≤ q) s.heap H locs → ∀ ls : Array Slot, lv_has ls 5 [(0, .ref (h 0)), (1, .int what), (2, .int inSome), (3, .int inAll), (4, .int (nI j18))] → W p l e (headSpec wsX2_holds ({ frames := 4, cells := 0, slots := 0, locals := 97 })).room s m ([.ref (h 0), .int what] : List Value).toArray below meth c H locs 0 0 (MQ below (va_Qi (fun r (_ : Unit) => r = s_X2_holds n may hd fi un on asd what) (fun _ _ => True) (fun q => s.heap.size ≤ q)) ([.ref (h 0), .int what] : List Value).toArray s 0 0 (fun q => s.heap.size ≤ q)) (F0 m 18 ls []) := by
      intro z_2
      induction z_2 with
      | zero =>
        intro j18 hj18 inSome inAll he18   H locs hP hS ls hl
        obtain rfl : 256 = j18 := by omega
        refine lv_iload hx hb dX2_holds_18 (lv_at hl 4 rfl) ?_
        refine lv_sipush (v := 255) hx hb dX2_holds_20 (by decide) ?_
        refine lv_icmp_gt (tgt := 62) hx hb dX2_holds_23 (by decide) (fun _ => ?_) (fun hh_4 => absurd (nI_lt (a := 255) (b := 256) (by omega) (by omega)) hh_4)
        refine lv_iload_n hx hb dX2_holds_62 rfl (lv_at hl 1 rfl) ?_
        refine lv_if_ne (tgt := 70) hx hb dX2_holds_63 (by decide) (fun c_63_5 => ?_) (fun c_63_5 => ?_)
        · refine lv_iload_n hx hb dX2_holds_70 rfl (lv_at hl 3 rfl) ?_
          exact ro_iret hx hb hr hS hlocks (show s_X2_holds n may hd fi un on asd what = inAll from by (unfold s_X2_holds; (try dsimp only); (try rw [if_neg c_4_1]); (try rw [← he18]); (try dsimp only); (try rw [if_neg c_63_5]); first | done | rfl)).symm dX2_holds_71
        · refine lv_iload_n hx hb dX2_holds_66 rfl (lv_at hl 2 rfl) ?_
          refine lv_goto (tgt := 71) hx hb dX2_holds_67 (by decide) ?_
          exact ro_iret hx hb hr hS hlocks (show s_X2_holds n may hd fi un on asd what = inSome from by (unfold s_X2_holds; (try dsimp only); (try rw [if_neg c_4_1]); (try rw [← he18]); (try dsimp only); (try rw [if_pos c_63_5]); first | done | rfl)).symm dX2_holds_71
      | succ z_2 ih18 =>
        intro j18 hj18 inSome inAll he18   H locs hP hS ls hl
        refine lv_iload hx hb dX2_holds_18 (lv_at hl 4 rfl) ?_
        refine lv_sipush (v := 255) hx hb dX2_holds_20 (by decide) ?_
        refine lv_icmp_gt (tgt := 62) hx hb dX2_holds_23 (by decide) (fun hh_7 => absurd hh_7 (nI_nlt (a := 255) (b := j18) (by omega) (by omega))) (fun _ => ?_)
        refine lv_aload_n hx hb dX2_holds_26 rfl (lv_at hl 0 rfl) ?_
        refine va_get (D := D) (ci := 2) (v := .ref (h 3)) (C := RX2) (T := TX2) (N := 9) hx hb hts hinX2 hown hK hP 0 rfl rfl 1 (by decide) (hts (.fieldLink RX2 19 "HoldUnless" "book" "LHoldUnless$RuleBook;") (by decide +kernel)) (fun _ h9 => h9) rfl dX2_holds_27 ?_
        refine lv_iload hx hb dX2_holds_30 (lv_at hl 4 rfl) ?_
        refine lv_aload_n hx hb dX2_holds_32 rfl (lv_at hl 0 rfl) ?_
        refine va_get (D := D) (ci := 2) (v := .int on) (C := RX2) (T := TX2) (N := 9) hx hb hts hinX2 hown hK hP 0 rfl rfl 3 (by decide) (hts (.fieldLink RX2 51 "HoldUnless" "on" "I") (by decide +kernel)) (fun _ h9 => h9) rfl dX2_holds_33 ?_
        refine lv_aload_n hx hb dX2_holds_36 rfl (lv_at hl 0 rfl) ?_
        refine va_get (D := D) (ci := 2) (v := .int asd) (C := RX2) (T := TX2) (N := 9) hx hb hts hinX2 hown hK hP 0 rfl rfl 4 (by decide) (hts (.fieldLink RX2 54 "HoldUnless" "assumed" "I") (by decide +kernel)) (fun _ h9 => h9) rfl dX2_holds_37 ?_
        have hPc := hP.sub (ws' := (wB (h 3) (h 4) (h 5) (h 6) (cA 4) (cA 5) (cA 6) (nI n) may hd fi un)) [3, 4, 5, 6] rfl
        have hDc := hD.sub (ws' := (wB (h 3) (h 4) (h 5) (h 6) (cA 4) (cA 5) (cA 6) (nI n) may hd fi un)) [3, 4, 5, 6] (by decide) rfl
        have hKc := hK.sub (tys' := (tB (h 3) (h 4) (h 5) (h 6) (cA 4) (cA 5) (cA 6))) [1, 2, 3] rfl
        refine ro_i (D := D) (va_runVN (As := [.int (nI j18), .int on, .int asd]) (rest := []) ⟨hx, hb, hml, hown, hts⟩ (c_X0_upholds l D (h 3) (h 4) (h 5) (h 6) (cA 4) (cA 5) (cA 6) n may hd fi un (nI j18) on asd (by first | assumption | omega) _) ⟨(va_cnB 3 hts gX2_holds_X0_upholds_n87 rfl rfl rfl (hN.nw 8 rfl) (hts (.initialized RX0) (by decide +kernel)) (by decide +kernel) ⟨Nat.le_of_ble_eq_true rfl, Nat.le_of_ble_eq_true rfl⟩), hts (.instanceMethod yX0_upholds) (by decide +kernel), hts (.selects RX0 yX0_upholds yX0_upholds) (by decide +kernel)⟩ ⟨cPre.blind, va_recv hKc hPc (ci := 0) (q0 := 0) rfl rfl, cPre.mk hPc hKc hDc hN⟩ rfl rfl hl.1 rfl (lv_room (Nat.le_of_ble_eq_true rfl)) dX2_holds_40 ⟨Nat.zero_le _, Nat.zero_le _⟩) hS hA (fun H locs hkp0 hS => ?_)
        replace hP := hkp0 _ hP
        refine lv_if_eq (tgt := 56) hx hb dX2_holds_43 (by decide) (fun c_43_8 => ?_) (fun c_43_8 => ?_)
        · refine lv_iinc (v := nI (j18 + 1)) (lv' := [(4, .int (nI (j18 + 1))), (0, .ref (h 0)), (1, .int what), (2, .int inSome), (3, .int inAll)]) hx hb dX2_holds_56 hl (k := 4) rfl (inc_nI j18) (by decide) rfl (fun ls hl => ?_)
          refine lv_goto (tgt := 18) hx hb dX2_holds_59 (by decide) ?_
          exact ih18 (j18 + 1) (by omega) inSome inAll (itr_step he18 (by (unfold f_X2_holds_18; (try dsimp only); (try rw [if_pos c_43_8]); first | done | rfl)))   _ _ hP hS _ (lv_sub hl [1, 2, 3, 4, 0] rfl)
        · refine lv_iload_n hx hb dX2_holds_46 rfl (lv_at hl 2 rfl) ?_
          refine lv_iload hx hb dX2_holds_47 (lv_at hl 4 rfl) ?_
          refine lv_ior hx hb dX2_holds_49 ?_
          refine lv_istore_n (lv' := [(2, .int (inSome ||| (nI j18))), (0, .ref (h 0)), (1, .int what), (3, .int inAll), (4, .int (nI j18))]) hx hb dX2_holds_50 rfl hl (by decide) rfl (fun ls hl => ?_)
          refine lv_iload_n hx hb dX2_holds_51 rfl (lv_at hl 3 rfl) ?_
          refine lv_iload hx hb dX2_holds_52 (lv_at hl 4 rfl) ?_
          refine lv_iand hx hb dX2_holds_54 ?_
          refine lv_istore_n (lv' := [(3, .int (inAll &&& (nI j18))), (2, .int (inSome ||| (nI j18))), (0, .ref (h 0)), (1, .int what), (4, .int (nI j18))]) hx hb dX2_holds_55 rfl hl (by decide) rfl (fun ls hl => ?_)
          refine lv_iinc (v := nI (j18 + 1)) (lv' := [(4, .int (nI (j18 + 1))), (3, .int (inAll &&& (nI j18))), (2, .int (inSome ||| (nI j18))), (0, .ref (h 0)), (1, .int what)]) hx hb dX2_holds_56 hl (k := 4) rfl (inc_nI j18) (by decide) rfl (fun ls hl => ?_)
          refine lv_goto (tgt := 18) hx hb dX2_holds_59 (by decide) ?_
          exact ih18 (j18 + 1) (by omega) (inSome ||| (nI j18)) (inAll &&& (nI j18)) (itr_step he18 (by (unfold f_X2_holds_18; (try dsimp only); (try rw [if_neg c_43_8]); first | done | rfl)))   _ _ hP hS _ (lv_sub hl [3, 4, 2, 1, 0] rfl)
    exact lp18_2 256 0 (by omega) 0 255 (itr_zero _ _).symm   _ _ hP hS _ (lv_sub hl [3, 4, 2, 1, 0] rfl)
  · refine lv_iconst (v := (-1)) hx hb dX2_holds_7 (by decide) ?_
    exact ro_iret hx hb hr hS hlocks (show s_X2_holds n may hd fi un on asd what = (-1) from by (unfold s_X2_holds; (try dsimp only); (try rw [if_pos c_4_1]); first | done | rfl)).symm dX2_holds_8

def f_X2_known_18 (n : Nat) (may : Int32) (hd : Nat → Int32) (fi : Nat → Int32) (un : Nat → Int32) (on : Int32) (asd : Int32) (a : Int32) (j18 : Nat) (st : Int32 × Int32) : Int32 ⊕ (Int32 × Int32) := match st with | (less, more) => (if (s_X0_comesOf n hd fi un asd on more) = less then (if (s_X0_comesOf n hd fi un (asd ||| may) on (s_X0_comesOf n hd fi un asd on more)) = more then (if (s_X2_bitOf (s_X0_comesOf n hd fi un asd on more) a) = 1 then (.inl 1) else (if (s_X2_bitOf (s_X0_comesOf n hd fi un (asd ||| may) on (s_X0_comesOf n hd fi un asd on more)) a) = 0 then (.inl 0) else (.inl (-9)))) else (.inr ((s_X0_comesOf n hd fi un asd on more), (s_X0_comesOf n hd fi un (asd ||| may) on (s_X0_comesOf n hd fi un asd on more))))) else (.inr ((s_X0_comesOf n hd fi un asd on more), (s_X0_comesOf n hd fi un (asd ||| may) on (s_X0_comesOf n hd fi un asd on more)))))
def s_X2_known (n : Nat) (may : Int32) (hd : Nat → Int32) (fi : Nat → Int32) (un : Nat → Int32) (on : Int32) (asd : Int32) (a : Int32) : Int32 := (if (s_X2_isSentence a) = 0 then (-1) else (onE (itE (f_X2_known_18 n may hd fi un on asd a) (0, 255) 17) (fun st => match st with | (less, more) => (if (s_X2_bitOf less a) = 1 then 1 else (if (s_X2_bitOf more a) = 0 then 0 else (-9))))))
set_option maxHeartbeats 4000000 in
set_option maxRecDepth 100000 in
theorem c_X2_known (l : Launch) (D : va_G) (h : Nat → Nat) (cA : Nat → ClassId) (n : Nat) (by_ : Nat → Int32) (ln : Int32) (pl : Int32) (tk : Int32) (tp : Int32) (may : Int32) (hd : Nat → Int32) (fi : Nat → Int32) (un : Nat → Int32) (sz2 : Int32) (may2 : Int32) (hd2 : Nat → Int32) (fi2 : Nat → Int32) (un2 : Nat → Int32) (on : Int32) (asd : Int32) (io : Nat → Int32) (ia : Nat → Int32) (kept : Int32) (tr : Int64) (a : Int32) (hn : n ≤ 10) (sz : Nat) : Met l yX2_known wsX2_known ({ frames := 3, cells := 0, slots := 0, locals := 74 }) (va_Pc [.ref (h 0), .int a] (cPre D (tX h cA) (wX h cA by_ ln pl tk tp (nI n) may hd fi un sz2 may2 hd2 fi2 un2 on asd io ia kept tr) sz)) (va_Qi (fun r (_ : Unit) => r = s_X2_known n may hd fi un on asd a) (fun _ _ => True) (fun q => sz ≤ q)) 0 0 (fun q => sz ≤ q) := by
  refine Met.ofW (cc := cX2_known) (maxL := 7) (ret := (some .int)) (by decide) rfl ?_
  intro p e s m args below meth c s₁ B hml hv
  obtain ⟨rfl, hsz, hP, hK, hD, hN⟩ := hv
  have hx := B.exec
  have hb := B.bytes
  have hr := B.returns
  have hts := atoms_spec (ws := wsX2_known) B.pre
  have hown : s.vm.findClass RX2 = some m.cls := findClass_of_methodNamed B.named
  have hlocks := B.notSynchronized
  have hinX0 : ∀ w ∈ wsX00, w ∈ wsX2_known := fun w h => List.mem_cons_of_mem _ (List.mem_append_right _ h)
  have hinX2 : ∀ w ∈ wsX20, w ∈ wsX2_known := fun w h => List.mem_cons_of_mem _ (List.mem_append_left _ (List.mem_append_right _ h))
  subst hsz
  obtain ⟨A, hAe⟩ : ∃ A : Nat → Prop, A = (fun q : Nat => s.heap.size ≤ q) := ⟨_, rfl⟩
  have hA : ∀ q : Nat, s.heap.size ≤ q → A q := fun q h => by rw [hAe]; exact h
  have hS : va_S A s.heap s.heap [] := va_S.rf
  subst hAe
  have hl := lv_entry ([.ref (h 0), .int a]) (n := 7) (Nat.le_of_ble_eq_true rfl)
  rw [lg_entry_eq]
  generalize (lg_sl ([.ref (h 0), .int a]) ++ List.replicate (7 - (lg_sl ([.ref (h 0), .int a])).length) Slot.unset).toArray = ls at hl ⊢
  replace hl : lv_has ls 7 [(0, .ref (h 0)), (1, .int a)] := hl
  have hKe := hK.sub (tys' := []) [] rfl
  refine lv_iload_n hx hb dX2_known_0 rfl (lv_at hl 1 rfl) ?_
  refine ro_i (D := D) (va_runS (As := [.int a]) (rest := []) ⟨hx, hb, hml, hown, hts⟩ (c_X2_isSentence l D a  _) (va_cwS 1 hts gX2_known_X2_isSentence rfl rfl rfl (by decide +kernel) ⟨Nat.le_of_ble_eq_true rfl, Nat.le_of_ble_eq_true rfl⟩) ⟨cPre.blind, cPre.mk vP0 hKe vD0 hN⟩ rfl rfl hl.1 rfl (lv_room (Nat.le_of_ble_eq_true rfl)) dX2_known_1 ⟨Nat.zero_le _, Nat.zero_le _⟩) hS hA (fun H locs hkp0 hS => ?_)
  replace hP := hkp0 _ hP
  refine lv_if_ne (tgt := 9) hx hb dX2_known_4 (by decide) (fun c_4_1 => ?_) (fun c_4_1 => ?_)
  · refine lv_iconst (v := 0) hx hb dX2_known_9 (by decide) ?_
    refine lv_istore_n (lv' := [(2, .int 0), (0, .ref (h 0)), (1, .int a)]) hx hb dX2_known_10 rfl hl (by decide) rfl (fun ls hl => ?_)
    refine lv_sipush (v := 255) hx hb dX2_known_11 (by decide) ?_
    refine lv_istore_n (lv' := [(3, .int 255), (2, .int 0), (0, .ref (h 0)), (1, .int a)]) hx hb dX2_known_14 rfl hl (by decide) rfl (fun ls hl => ?_)
    refine lv_iconst (v := 0) hx hb dX2_known_15 (by decide) ?_
    refine lv_istore (lv' := [(4, .int 0), (3, .int 255), (2, .int 0), (0, .ref (h 0)), (1, .int a)]) hx hb dX2_known_16 hl (by decide) rfl (fun ls hl => ?_)
    have lp18_2 : ∀ (z_2 j18 : Nat), j18 + z_2 = 17 → ∀ (less : Int32) (more : Int32), itE (f_X2_known_18 n may hd fi un on asd a) (0, 255) j18 = .inr (less, more) → ∀  (H : Heap) (locs : List Loc), va_P D vwCl (wX h cA by_ ln pl tk tp (nI n) may hd fi un sz2 may2 hd2 fi2 un2 on asd io ia kept tr) H → va_S (fun q : Nat => s.heap.size ≤ q) s.heap H locs → ∀ ls : Array Slot, lv_has ls 7 [(0, .ref (h 0)), (1, .int a), (2, .int less), (3, .int more), (4, .int (nI j18))] → W p l e (headSpec wsX2_known ({ frames := 3, cells := 0, slots := 0, locals := 74 })).room s m ([.ref (h 0), .int a] : List Value).toArray below meth c H locs 0 0 (MQ below (va_Qi (fun r (_ : Unit) => r = s_X2_known n may hd fi un on asd a) (fun _ _ => True) (fun q => s.heap.size ≤ q)) ([.ref (h 0), .int a] : List Value).toArray s 0 0 (fun q => s.heap.size ≤ q)) (F0 m 18 ls []) := by
      intro z_2
      induction z_2 with
      | zero =>
        intro j18 hj18 less more he18   H locs hP hS ls hl
        obtain rfl : 17 = j18 := by omega
        refine lv_iload hx hb dX2_known_18 (lv_at hl 4 rfl) ?_
        refine lv_bipush (v := 16) hx hb dX2_known_20 (by decide) ?_
        refine lv_icmp_gt (tgt := 94) hx hb dX2_known_22 (by decide) (fun _ => ?_) (fun hh_4 => absurd (nI_lt (a := 16) (b := 17) (by omega) (by omega)) hh_4)
        refine lv_iload_n hx hb dX2_known_94 rfl (lv_at hl 2 rfl) ?_
        refine lv_iload_n hx hb dX2_known_95 rfl (lv_at hl 1 rfl) ?_
        refine ro_i (D := D) (va_runS (As := [.int less, .int a]) (rest := []) ⟨hx, hb, hml, hown, hts⟩ (c_X2_bitOf l D less a  _) (va_cwS 2 hts gX2_known_X2_bitOf rfl rfl rfl (by decide +kernel) ⟨Nat.le_of_ble_eq_true rfl, Nat.le_of_ble_eq_true rfl⟩) ⟨cPre.blind, cPre.mk vP0 hKe vD0 hN⟩ rfl rfl hl.1 rfl (lv_room (Nat.le_of_ble_eq_true rfl)) dX2_known_96 ⟨Nat.zero_le _, Nat.zero_le _⟩) hS hA (fun H locs hkp0 hS => ?_)
        replace hP := hkp0 _ hP
        refine lv_iconst (v := 1) hx hb dX2_known_99 (by decide) ?_
        refine lv_icmp_ne (tgt := 105) hx hb dX2_known_100 (by decide) (fun c_100_5 => ?_) (fun c_100_5 => ?_)
        · refine lv_iload_n hx hb dX2_known_105 rfl (lv_at hl 3 rfl) ?_
          refine lv_iload_n hx hb dX2_known_106 rfl (lv_at hl 1 rfl) ?_
          refine ro_i (D := D) (va_runS (As := [.int more, .int a]) (rest := []) ⟨hx, hb, hml, hown, hts⟩ (c_X2_bitOf l D more a  _) (va_cwS 2 hts gX2_known_X2_bitOf rfl rfl rfl (by decide +kernel) ⟨Nat.le_of_ble_eq_true rfl, Nat.le_of_ble_eq_true rfl⟩) ⟨cPre.blind, cPre.mk vP0 hKe vD0 hN⟩ rfl rfl hl.1 rfl (lv_room (Nat.le_of_ble_eq_true rfl)) dX2_known_107 ⟨Nat.zero_le _, Nat.zero_le _⟩) hS hA (fun H locs hkp0 hS => ?_)
          replace hP := hkp0 _ hP
          refine lv_if_ne (tgt := 117) hx hb dX2_known_110 (by decide) (fun c_110_6 => ?_) (fun c_110_6 => ?_)
          · refine lv_bipush (v := (-9)) hx hb dX2_known_117 (by decide) ?_
            exact ro_iret hx hb hr hS hlocks (show s_X2_known n may hd fi un on asd a = (-9) from by (unfold s_X2_known; (try dsimp only); (try rw [if_neg c_4_1]); (try rw [he18]); (try dsimp only [onE]); (try rw [if_neg c_100_5]); (try rw [if_neg c_110_6]); first | done | rfl)).symm dX2_known_119
          · refine lv_iconst (v := 0) hx hb dX2_known_113 (by decide) ?_
            refine lv_goto (tgt := 119) hx hb dX2_known_114 (by decide) ?_
            exact ro_iret hx hb hr hS hlocks (show s_X2_known n may hd fi un on asd a = 0 from by (unfold s_X2_known; (try dsimp only); (try rw [if_neg c_4_1]); (try rw [he18]); (try dsimp only [onE]); (try rw [if_neg c_100_5]); (try rw [if_pos c_110_6]); first | done | rfl)).symm dX2_known_119
        · refine lv_iconst (v := 1) hx hb dX2_known_103 (by decide) ?_
          exact ro_iret hx hb hr hS hlocks (show s_X2_known n may hd fi un on asd a = 1 from by (unfold s_X2_known; (try dsimp only); (try rw [if_neg c_4_1]); (try rw [he18]); (try dsimp only [onE]); (try rw [if_pos c_100_5]); first | done | rfl)).symm dX2_known_104
      | succ z_2 ih18 =>
        intro j18 hj18 less more he18   H locs hP hS ls hl
        refine lv_iload hx hb dX2_known_18 (lv_at hl 4 rfl) ?_
        refine lv_bipush (v := 16) hx hb dX2_known_20 (by decide) ?_
        refine lv_icmp_gt (tgt := 94) hx hb dX2_known_22 (by decide) (fun hh_8 => absurd hh_8 (nI_nlt (a := 16) (b := j18) (by omega) (by omega))) (fun _ => ?_)
        refine lv_iload_n hx hb dX2_known_25 rfl (lv_at hl 2 rfl) ?_
        refine lv_istore (lv' := [(5, .int less), (0, .ref (h 0)), (1, .int a), (2, .int less), (3, .int more), (4, .int (nI j18))]) hx hb dX2_known_26 hl (by decide) rfl (fun ls hl => ?_)
        refine lv_iload_n hx hb dX2_known_28 rfl (lv_at hl 4 rfl) ?_
        refine lv_istore (lv' := [(6, .int more), (5, .int less), (0, .ref (h 0)), (1, .int a), (2, .int less), (3, .int more), (4, .int (nI j18))]) hx hb dX2_known_29 hl (by decide) rfl (fun ls hl => ?_)
        refine lv_aload_n hx hb dX2_known_31 rfl (lv_at hl 2 rfl) ?_
        refine va_get (D := D) (ci := 2) (v := .ref (h 3)) (C := RX2) (T := TX2) (N := 9) hx hb hts hinX2 hown hK hP 0 rfl rfl 1 (by decide) (hts (.fieldLink RX2 19 "HoldUnless" "book" "LHoldUnless$RuleBook;") (by decide +kernel)) (fun _ h9 => h9) rfl dX2_known_32 ?_
        refine lv_aload_n hx hb dX2_known_35 rfl (lv_at hl 2 rfl) ?_
        refine va_get (D := D) (ci := 2) (v := .int asd) (C := RX2) (T := TX2) (N := 9) hx hb hts hinX2 hown hK hP 0 rfl rfl 4 (by decide) (hts (.fieldLink RX2 54 "HoldUnless" "assumed" "I") (by decide +kernel)) (fun _ h9 => h9) rfl dX2_known_36 ?_
        refine lv_aload_n hx hb dX2_known_39 rfl (lv_at hl 2 rfl) ?_
        refine va_get (D := D) (ci := 2) (v := .int on) (C := RX2) (T := TX2) (N := 9) hx hb hts hinX2 hown hK hP 0 rfl rfl 3 (by decide) (hts (.fieldLink RX2 51 "HoldUnless" "on" "I") (by decide +kernel)) (fun _ h9 => h9) rfl dX2_known_40 ?_
        refine lv_iload_n hx hb dX2_known_43 rfl (lv_at hl 5 rfl) ?_
        have hPc := hP.sub (ws' := (wB (h 3) (h 4) (h 5) (h 6) (cA 4) (cA 5) (cA 6) (nI n) may hd fi un)) [3, 4, 5, 6] rfl
        have hDc := hD.sub (ws' := (wB (h 3) (h 4) (h 5) (h 6) (cA 4) (cA 5) (cA 6) (nI n) may hd fi un)) [3, 4, 5, 6] (by decide) rfl
        have hKc := hK.sub (tys' := (tB (h 3) (h 4) (h 5) (h 6) (cA 4) (cA 5) (cA 6))) [1, 2, 3] rfl
        refine ro_i (D := D) (va_runVN (As := [.int asd, .int on, .int more]) (rest := []) ⟨hx, hb, hml, hown, hts⟩ (c_X0_comesOf l D (h 3) (h 4) (h 5) (h 6) (cA 4) (cA 5) (cA 6) n may hd fi un asd on more (by first | assumption | omega) _) ⟨(va_cnB 3 hts gX2_known_X0_comesOf_n98 rfl rfl rfl (hN.nw 10 rfl) (hts (.initialized RX0) (by decide +kernel)) (by decide +kernel) ⟨Nat.le_of_ble_eq_true rfl, Nat.le_of_ble_eq_true rfl⟩), hts (.instanceMethod yX0_comesOf) (by decide +kernel), hts (.selects RX0 yX0_comesOf yX0_comesOf) (by decide +kernel)⟩ ⟨cPre.blind, va_recv hKc hPc (ci := 0) (q0 := 0) rfl rfl, cPre.mk hPc hKc hDc hN⟩ rfl rfl hl.1 rfl (lv_room (Nat.le_of_ble_eq_true rfl)) dX2_known_44 ⟨Nat.zero_le _, Nat.zero_le _⟩) hS hA (fun H locs hkp0 hS => ?_)
        replace hP := hkp0 _ hP
        refine lv_istore_n (lv' := [(2, .int (s_X0_comesOf n hd fi un asd on more)), (6, .int more), (5, .int less), (0, .ref (h 0)), (1, .int a), (3, .int more), (4, .int (nI j18))]) hx hb dX2_known_47 rfl hl (by decide) rfl (fun ls hl => ?_)
        refine lv_aload_n hx hb dX2_known_48 rfl (lv_at hl 3 rfl) ?_
        refine va_get (D := D) (ci := 2) (v := .ref (h 3)) (C := RX2) (T := TX2) (N := 9) hx hb hts hinX2 hown hK hP 0 rfl rfl 1 (by decide) (hts (.fieldLink RX2 19 "HoldUnless" "book" "LHoldUnless$RuleBook;") (by decide +kernel)) (fun _ h9 => h9) rfl dX2_known_49 ?_
        refine lv_aload_n hx hb dX2_known_52 rfl (lv_at hl 3 rfl) ?_
        refine va_get (D := D) (ci := 2) (v := .int asd) (C := RX2) (T := TX2) (N := 9) hx hb hts hinX2 hown hK hP 0 rfl rfl 4 (by decide) (hts (.fieldLink RX2 54 "HoldUnless" "assumed" "I") (by decide +kernel)) (fun _ h9 => h9) rfl dX2_known_53 ?_
        refine lv_aload_n hx hb dX2_known_56 rfl (lv_at hl 3 rfl) ?_
        refine va_get (D := D) (ci := 2) (v := .ref (h 3)) (C := RX2) (T := TX2) (N := 9) hx hb hts hinX2 hown hK hP 0 rfl rfl 1 (by decide) (hts (.fieldLink RX2 19 "HoldUnless" "book" "LHoldUnless$RuleBook;") (by decide +kernel)) (fun _ h9 => h9) rfl dX2_known_57 ?_
        refine va_getN (D := D) (ci := 0) (v := .int may) (C := RX0) (T := TX0) (N := 5) hx hb hts hinX0 hown hK hP 3 rfl rfl 1 (by decide) (hN.use 20 rfl) (fun _ h9 => h9) rfl dX2_known_60 ?_
        refine lv_ior hx hb dX2_known_63 ?_
        refine lv_aload_n hx hb dX2_known_64 rfl (lv_at hl 3 rfl) ?_
        refine va_get (D := D) (ci := 2) (v := .int on) (C := RX2) (T := TX2) (N := 9) hx hb hts hinX2 hown hK hP 0 rfl rfl 3 (by decide) (hts (.fieldLink RX2 51 "HoldUnless" "on" "I") (by decide +kernel)) (fun _ h9 => h9) rfl dX2_known_65 ?_
        refine lv_iload_n hx hb dX2_known_68 rfl (lv_at hl 0 rfl) ?_
        have hPc := hP.sub (ws' := (wB (h 3) (h 4) (h 5) (h 6) (cA 4) (cA 5) (cA 6) (nI n) may hd fi un)) [3, 4, 5, 6] rfl
        have hDc := hD.sub (ws' := (wB (h 3) (h 4) (h 5) (h 6) (cA 4) (cA 5) (cA 6) (nI n) may hd fi un)) [3, 4, 5, 6] (by decide) rfl
        have hKc := hK.sub (tys' := (tB (h 3) (h 4) (h 5) (h 6) (cA 4) (cA 5) (cA 6))) [1, 2, 3] rfl
        refine ro_i (D := D) (va_runVN (As := [.int (asd ||| may), .int on, .int (s_X0_comesOf n hd fi un asd on more)]) (rest := []) ⟨hx, hb, hml, hown, hts⟩ (c_X0_comesOf l D (h 3) (h 4) (h 5) (h 6) (cA 4) (cA 5) (cA 6) n may hd fi un (asd ||| may) on (s_X0_comesOf n hd fi un asd on more) (by first | assumption | omega) _) ⟨(va_cnB 3 hts gX2_known_X0_comesOf_n98 rfl rfl rfl (hN.nw 10 rfl) (hts (.initialized RX0) (by decide +kernel)) (by decide +kernel) ⟨Nat.le_of_ble_eq_true rfl, Nat.le_of_ble_eq_true rfl⟩), hts (.instanceMethod yX0_comesOf) (by decide +kernel), hts (.selects RX0 yX0_comesOf yX0_comesOf) (by decide +kernel)⟩ ⟨cPre.blind, va_recv hKc hPc (ci := 0) (q0 := 0) rfl rfl, cPre.mk hPc hKc hDc hN⟩ rfl rfl hl.1 rfl (lv_room (Nat.le_of_ble_eq_true rfl)) dX2_known_69 ⟨Nat.zero_le _, Nat.zero_le _⟩) hS hA (fun H locs hkp0 hS => ?_)
        replace hP := hkp0 _ hP
        refine lv_istore_n (lv' := [(3, .int (s_X0_comesOf n hd fi un (asd ||| may) on (s_X0_comesOf n hd fi un asd on more))), (2, .int (s_X0_comesOf n hd fi un asd on more)), (6, .int more), (5, .int less), (0, .ref (h 0)), (1, .int a), (4, .int (nI j18))]) hx hb dX2_known_72 rfl hl (by decide) rfl (fun ls hl => ?_)
        refine lv_iload_n hx hb dX2_known_73 rfl (lv_at hl 1 rfl) ?_
        refine lv_iload hx hb dX2_known_74 (lv_at hl 3 rfl) ?_
        refine lv_icmp_ne (tgt := 88) hx hb dX2_known_76 (by decide) (fun c_76_9 => ?_) (fun c_76_9 => ?_)
        · refine lv_iinc (v := nI (j18 + 1)) (lv' := [(4, .int (nI (j18 + 1))), (3, .int (s_X0_comesOf n hd fi un (asd ||| may) on (s_X0_comesOf n hd fi un asd on more))), (2, .int (s_X0_comesOf n hd fi un asd on more)), (6, .int more), (5, .int less), (0, .ref (h 0)), (1, .int a)]) hx hb dX2_known_88 hl (k := 6) rfl (inc_nI j18) (by decide) rfl (fun ls hl => ?_)
          refine lv_goto (tgt := 18) hx hb dX2_known_91 (by decide) ?_
          exact ih18 (j18 + 1) (by omega) (s_X0_comesOf n hd fi un asd on more) (s_X0_comesOf n hd fi un (asd ||| may) on (s_X0_comesOf n hd fi un asd on more)) (itE_succ he18 (by (unfold f_X2_known_18; (try dsimp only); (try rw [if_neg c_76_9]); first | done | rfl)))   _ _ hP hS _ (lv_sub hl [5, 6, 2, 1, 0] rfl)
        · refine lv_iload_n hx hb dX2_known_79 rfl (lv_at hl 0 rfl) ?_
          refine lv_iload hx hb dX2_known_80 (lv_at hl 2 rfl) ?_
          refine lv_icmp_ne (tgt := 88) hx hb dX2_known_82 (by decide) (fun c_82_10 => ?_) (fun c_82_10 => ?_)
          · refine lv_iinc (v := nI (j18 + 1)) (lv' := [(4, .int (nI (j18 + 1))), (3, .int (s_X0_comesOf n hd fi un (asd ||| may) on (s_X0_comesOf n hd fi un asd on more))), (2, .int (s_X0_comesOf n hd fi un asd on more)), (6, .int more), (5, .int less), (0, .ref (h 0)), (1, .int a)]) hx hb dX2_known_88 hl (k := 6) rfl (inc_nI j18) (by decide) rfl (fun ls hl => ?_)
            refine lv_goto (tgt := 18) hx hb dX2_known_91 (by decide) ?_
            exact ih18 (j18 + 1) (by omega) (s_X0_comesOf n hd fi un asd on more) (s_X0_comesOf n hd fi un (asd ||| may) on (s_X0_comesOf n hd fi un asd on more)) (itE_succ he18 (by (unfold f_X2_known_18; (try dsimp only); (try rw [if_pos c_76_9]); (try rw [if_neg c_82_10]); first | done | rfl)))   _ _ hP hS _ (lv_sub hl [5, 6, 2, 1, 0] rfl)
          · refine lv_goto (tgt := 94) hx hb dX2_known_85 (by decide) ?_
            refine lv_iload_n hx hb dX2_known_94 rfl (lv_at hl 1 rfl) ?_
            refine lv_iload_n hx hb dX2_known_95 rfl (lv_at hl 5 rfl) ?_
            refine ro_i (D := D) (va_runS (As := [.int (s_X0_comesOf n hd fi un asd on more), .int a]) (rest := []) ⟨hx, hb, hml, hown, hts⟩ (c_X2_bitOf l D (s_X0_comesOf n hd fi un asd on more) a  _) (va_cwS 2 hts gX2_known_X2_bitOf rfl rfl rfl (by decide +kernel) ⟨Nat.le_of_ble_eq_true rfl, Nat.le_of_ble_eq_true rfl⟩) ⟨cPre.blind, cPre.mk vP0 hKe vD0 hN⟩ rfl rfl hl.1 rfl (lv_room (Nat.le_of_ble_eq_true rfl)) dX2_known_96 ⟨Nat.zero_le _, Nat.zero_le _⟩) hS hA (fun H locs hkp0 hS => ?_)
            replace hP := hkp0 _ hP
            refine lv_iconst (v := 1) hx hb dX2_known_99 (by decide) ?_
            refine lv_icmp_ne (tgt := 105) hx hb dX2_known_100 (by decide) (fun c_100_11 => ?_) (fun c_100_11 => ?_)
            · refine lv_iload_n hx hb dX2_known_105 rfl (lv_at hl 0 rfl) ?_
              refine lv_iload_n hx hb dX2_known_106 rfl (lv_at hl 5 rfl) ?_
              refine ro_i (D := D) (va_runS (As := [.int (s_X0_comesOf n hd fi un (asd ||| may) on (s_X0_comesOf n hd fi un asd on more)), .int a]) (rest := []) ⟨hx, hb, hml, hown, hts⟩ (c_X2_bitOf l D (s_X0_comesOf n hd fi un (asd ||| may) on (s_X0_comesOf n hd fi un asd on more)) a  _) (va_cwS 2 hts gX2_known_X2_bitOf rfl rfl rfl (by decide +kernel) ⟨Nat.le_of_ble_eq_true rfl, Nat.le_of_ble_eq_true rfl⟩) ⟨cPre.blind, cPre.mk vP0 hKe vD0 hN⟩ rfl rfl hl.1 rfl (lv_room (Nat.le_of_ble_eq_true rfl)) dX2_known_107 ⟨Nat.zero_le _, Nat.zero_le _⟩) hS hA (fun H locs hkp0 hS => ?_)
              replace hP := hkp0 _ hP
              refine lv_if_ne (tgt := 117) hx hb dX2_known_110 (by decide) (fun c_110_12 => ?_) (fun c_110_12 => ?_)
              · refine lv_bipush (v := (-9)) hx hb dX2_known_117 (by decide) ?_
                have hs_13 : itE (f_X2_known_18 n may hd fi un on asd a) (0, 255) (j18 + 1) = (.inl (-9)) := itE_succ he18 (by (unfold f_X2_known_18; (try dsimp only); (try rw [if_pos c_76_9]); (try rw [if_pos c_82_10]); (try rw [if_neg c_100_11]); (try rw [if_neg c_110_12]); first | done | rfl))
                have hn_14 := itE_stop hs_13 17 (by omega)
                exact ro_iret hx hb hr hS hlocks (show s_X2_known n may hd fi un on asd a = (-9) from by (unfold s_X2_known; (try dsimp only); (try rw [if_neg c_4_1]); (try rw [hn_14]); (try dsimp only [onE]); first | done | rfl)).symm dX2_known_119
              · refine lv_iconst (v := 0) hx hb dX2_known_113 (by decide) ?_
                refine lv_goto (tgt := 119) hx hb dX2_known_114 (by decide) ?_
                have hs_15 : itE (f_X2_known_18 n may hd fi un on asd a) (0, 255) (j18 + 1) = (.inl 0) := itE_succ he18 (by (unfold f_X2_known_18; (try dsimp only); (try rw [if_pos c_76_9]); (try rw [if_pos c_82_10]); (try rw [if_neg c_100_11]); (try rw [if_pos c_110_12]); first | done | rfl))
                have hn_16 := itE_stop hs_15 17 (by omega)
                exact ro_iret hx hb hr hS hlocks (show s_X2_known n may hd fi un on asd a = 0 from by (unfold s_X2_known; (try dsimp only); (try rw [if_neg c_4_1]); (try rw [hn_16]); (try dsimp only [onE]); first | done | rfl)).symm dX2_known_119
            · refine lv_iconst (v := 1) hx hb dX2_known_103 (by decide) ?_
              have hs_17 : itE (f_X2_known_18 n may hd fi un on asd a) (0, 255) (j18 + 1) = (.inl 1) := itE_succ he18 (by (unfold f_X2_known_18; (try dsimp only); (try rw [if_pos c_76_9]); (try rw [if_pos c_82_10]); (try rw [if_pos c_100_11]); first | done | rfl))
              have hn_18 := itE_stop hs_17 17 (by omega)
              exact ro_iret hx hb hr hS hlocks (show s_X2_known n may hd fi un on asd a = 1 from by (unfold s_X2_known; (try dsimp only); (try rw [if_neg c_4_1]); (try rw [hn_18]); (try dsimp only [onE]); first | done | rfl)).symm dX2_known_104
    exact lp18_2 17 0 (by omega) 0 255 (itE_zero _ _)   _ _ hP hS _ (lv_sub hl [3, 4, 2, 1, 0] rfl)
  · refine lv_iconst (v := (-1)) hx hb dX2_known_7 (by decide) ?_
    exact ro_iret hx hb hr hS hlocks (show s_X2_known n may hd fi un on asd a = (-1) from by (unfold s_X2_known; (try dsimp only); (try rw [if_pos c_4_1]); first | done | rfl)).symm dX2_known_8

def f_X2_why_87 (n : Nat) (may : Int32) (hd : Nat → Int32) (fi : Nat → Int32) (un : Nat → Int32) (on : Int32) (asd : Int32) (i : Int32) (a : Int32) (what : Int32) (j87 : Nat) (st : Int32) : Int32 ⊕ (Int32) := match st with | came => (if (s_X0_firstRuleBringing n hd fi un a came on (s_X2_standingSet n may hd fi un on asd i)) = (-9) then (.inr (s_X0_nextRound n hd fi un came on (s_X2_standingSet n may hd fi un on asd i))) else (if what = 0 then (.inl (nI (j87 + 1))) else (.inl (s_X0_firstRuleBringing n hd fi un a came on (s_X2_standingSet n may hd fi un on asd i)))))
def s_X2_why (n : Nat) (may : Int32) (hd : Nat → Int32) (fi : Nat → Int32) (un : Nat → Int32) (on : Int32) (asd : Int32) (i : Int32) (a : Int32) (what : Int32) : Int32 := (if i < 0 then (-1) else (if (s_X2_isSentence a) = 0 then (-1) else (if (s_X2_isBit what) = 0 then (-1) else (if (s_X2_standingSet n may hd fi un on asd i) = (-9) then (-9) else (if (s_X2_bitOf (s_X2_standingSet n may hd fi un on asd i) a) = 0 then (-9) else (if (s_X2_bitOf (asd ||| (may &&& (s_X2_standingSet n may hd fi un on asd i))) a) = 1 then (if what = 0 then 0 else (-9)) else (onE (itE (f_X2_why_87 n may hd fi un on asd i a what) (asd ||| (may &&& (s_X2_standingSet n may hd fi un on asd i))) 8) (fun st => match st with | came => (-9)))))))))
set_option maxHeartbeats 4000000 in
set_option maxRecDepth 100000 in
theorem c_X2_why (l : Launch) (D : va_G) (h : Nat → Nat) (cA : Nat → ClassId) (n : Nat) (by_ : Nat → Int32) (ln : Int32) (pl : Int32) (tk : Int32) (tp : Int32) (may : Int32) (hd : Nat → Int32) (fi : Nat → Int32) (un : Nat → Int32) (sz2 : Int32) (may2 : Int32) (hd2 : Nat → Int32) (fi2 : Nat → Int32) (un2 : Nat → Int32) (on : Int32) (asd : Int32) (io : Nat → Int32) (ia : Nat → Int32) (kept : Int32) (tr : Int64) (i : Int32) (a : Int32) (what : Int32) (hn : n ≤ 10) (sz : Nat) : Met l yX2_why wsX2_why ({ frames := 5, cells := 0, slots := 0, locals := 120 }) (va_Pc [.ref (h 0), .int i, .int a, .int what] (cPre D (tX h cA) (wX h cA by_ ln pl tk tp (nI n) may hd fi un sz2 may2 hd2 fi2 un2 on asd io ia kept tr) sz)) (va_Qi (fun r (_ : Unit) => r = s_X2_why n may hd fi un on asd i a what) (fun _ _ => True) (fun q => sz ≤ q)) 0 0 (fun q => sz ≤ q) := by
  refine Met.ofW (cc := cX2_why) (maxL := 8) (ret := (some .int)) (by decide) rfl ?_
  intro p e s m args below meth c s₁ B hml hv
  obtain ⟨rfl, hsz, hP, hK, hD, hN⟩ := hv
  have hx := B.exec
  have hb := B.bytes
  have hr := B.returns
  have hts := atoms_spec (ws := wsX2_why) B.pre
  have hown : s.vm.findClass RX2 = some m.cls := findClass_of_methodNamed B.named
  have hlocks := B.notSynchronized
  have hinX0 : ∀ w ∈ wsX00, w ∈ wsX2_why := fun w h => List.mem_cons_of_mem _ (List.mem_append_right _ h)
  have hinX2 : ∀ w ∈ wsX20, w ∈ wsX2_why := fun w h => List.mem_cons_of_mem _ (List.mem_append_left _ (List.mem_append_right _ h))
  subst hsz
  obtain ⟨A, hAe⟩ : ∃ A : Nat → Prop, A = (fun q : Nat => s.heap.size ≤ q) := ⟨_, rfl⟩
  have hA : ∀ q : Nat, s.heap.size ≤ q → A q := fun q h => by rw [hAe]; exact h
  have hS : va_S A s.heap s.heap [] := va_S.rf
  subst hAe
  have hl := lv_entry ([.ref (h 0), .int i, .int a, .int what]) (n := 8) (Nat.le_of_ble_eq_true rfl)
  rw [lg_entry_eq]
  generalize (lg_sl ([.ref (h 0), .int i, .int a, .int what]) ++ List.replicate (8 - (lg_sl ([.ref (h 0), .int i, .int a, .int what])).length) Slot.unset).toArray = ls at hl ⊢
  replace hl : lv_has ls 8 [(0, .ref (h 0)), (1, .int i), (2, .int a), (3, .int what)] := hl
  have hKe := hK.sub (tys' := []) [] rfl
  refine lv_iload_n hx hb dX2_why_0 rfl (lv_at hl 1 rfl) ?_
  refine lv_if_lt (tgt := 18) hx hb dX2_why_1 (by decide) (fun c_1_1 => ?_) (fun c_1_1 => ?_)
  · refine lv_iconst (v := (-1)) hx hb dX2_why_18 (by decide) ?_
    exact ro_iret hx hb hr hS hlocks (show s_X2_why n may hd fi un on asd i a what = (-1) from by (unfold s_X2_why; (try dsimp only); (try rw [if_pos c_1_1]); first | done | rfl)).symm dX2_why_19
  · refine lv_iload_n hx hb dX2_why_4 rfl (lv_at hl 2 rfl) ?_
    refine ro_i (D := D) (va_runS (As := [.int a]) (rest := []) ⟨hx, hb, hml, hown, hts⟩ (c_X2_isSentence l D a  _) (va_cwS 1 hts gX2_why_X2_isSentence rfl rfl rfl (by decide +kernel) ⟨Nat.le_of_ble_eq_true rfl, Nat.le_of_ble_eq_true rfl⟩) ⟨cPre.blind, cPre.mk vP0 hKe vD0 hN⟩ rfl rfl hl.1 rfl (lv_room (Nat.le_of_ble_eq_true rfl)) dX2_why_5 ⟨Nat.zero_le _, Nat.zero_le _⟩) hS hA (fun H locs hkp0 hS => ?_)
    replace hP := hkp0 _ hP
    refine lv_if_eq (tgt := 18) hx hb dX2_why_8 (by decide) (fun c_8_2 => ?_) (fun c_8_2 => ?_)
    · refine lv_iconst (v := (-1)) hx hb dX2_why_18 (by decide) ?_
      exact ro_iret hx hb hr hS hlocks (show s_X2_why n may hd fi un on asd i a what = (-1) from by (unfold s_X2_why; (try dsimp only); (try rw [if_neg c_1_1]); (try rw [if_pos c_8_2]); first | done | rfl)).symm dX2_why_19
    · refine lv_iload_n hx hb dX2_why_11 rfl (lv_at hl 3 rfl) ?_
      refine ro_i (D := D) (va_runS (As := [.int what]) (rest := []) ⟨hx, hb, hml, hown, hts⟩ (c_X2_isBit l D what  _) (va_cwS 1 hts gX2_why_X2_isBit rfl rfl rfl (by decide +kernel) ⟨Nat.le_of_ble_eq_true rfl, Nat.le_of_ble_eq_true rfl⟩) ⟨cPre.blind, cPre.mk vP0 hKe vD0 hN⟩ rfl rfl hl.1 rfl (lv_room (Nat.le_of_ble_eq_true rfl)) dX2_why_12 ⟨Nat.zero_le _, Nat.zero_le _⟩) hS hA (fun H locs hkp0 hS => ?_)
      replace hP := hkp0 _ hP
      refine lv_if_ne (tgt := 20) hx hb dX2_why_15 (by decide) (fun c_15_3 => ?_) (fun c_15_3 => ?_)
      · refine lv_aload_n hx hb dX2_why_20 rfl (lv_at hl 0 rfl) ?_
        refine lv_iload_n hx hb dX2_why_21 rfl (lv_at hl 1 rfl) ?_
        refine ro_i (D := D) (va_runV (As := [.int i]) (rest := []) ⟨hx, hb, hml, hown, hts⟩ (c_X2_standingSet l D h cA n by_ ln pl tk tp may hd fi un sz2 may2 hd2 fi2 un2 on asd io ia kept tr i (by first | assumption | omega) _) (cwV 1 hts gX2_why_X2_standingSet rfl rfl rfl (by decide +kernel) ⟨Nat.le_of_ble_eq_true rfl, Nat.le_of_ble_eq_true rfl⟩) ⟨cPre.blind, va_recv hK hP (ci := 2) (q0 := 0) rfl rfl, cPre.mk hP hK hD hN⟩ rfl rfl hl.1 rfl (lv_room (Nat.le_of_ble_eq_true rfl)) dX2_why_22 ⟨Nat.zero_le _, Nat.zero_le _⟩) hS hA (fun H locs hkp0 hS => ?_)
        replace hP := hkp0 _ hP
        refine lv_istore (lv' := [(4, .int (s_X2_standingSet n may hd fi un on asd i)), (0, .ref (h 0)), (1, .int i), (2, .int a), (3, .int what)]) hx hb dX2_why_25 hl (by decide) rfl (fun ls hl => ?_)
        refine lv_iload hx hb dX2_why_27 (lv_at hl 0 rfl) ?_
        refine lv_bipush (v := (-9)) hx hb dX2_why_29 (by decide) ?_
        refine lv_icmp_eq (tgt := 43) hx hb dX2_why_31 (by decide) (fun c_31_4 => ?_) (fun c_31_4 => ?_)
        · refine lv_bipush (v := (-9)) hx hb dX2_why_43 (by decide) ?_
          exact ro_iret hx hb hr hS hlocks (show s_X2_why n may hd fi un on asd i a what = (-9) from by (unfold s_X2_why; (try dsimp only); (try rw [if_neg c_1_1]); (try rw [if_neg c_8_2]); (try rw [if_neg c_15_3]); (try rw [if_pos c_31_4]); first | done | rfl)).symm dX2_why_45
        · refine lv_iload hx hb dX2_why_34 (lv_at hl 0 rfl) ?_
          refine lv_iload_n hx hb dX2_why_36 rfl (lv_at hl 3 rfl) ?_
          refine ro_i (D := D) (va_runS (As := [.int (s_X2_standingSet n may hd fi un on asd i), .int a]) (rest := []) ⟨hx, hb, hml, hown, hts⟩ (c_X2_bitOf l D (s_X2_standingSet n may hd fi un on asd i) a  _) (va_cwS 2 hts gX2_why_X2_bitOf rfl rfl rfl (by decide +kernel) ⟨Nat.le_of_ble_eq_true rfl, Nat.le_of_ble_eq_true rfl⟩) ⟨cPre.blind, cPre.mk vP0 hKe vD0 hN⟩ rfl rfl hl.1 rfl (lv_room (Nat.le_of_ble_eq_true rfl)) dX2_why_37 ⟨Nat.zero_le _, Nat.zero_le _⟩) hS hA (fun H locs hkp0 hS => ?_)
          replace hP := hkp0 _ hP
          refine lv_if_ne (tgt := 46) hx hb dX2_why_40 (by decide) (fun c_40_5 => ?_) (fun c_40_5 => ?_)
          · refine lv_aload_n hx hb dX2_why_46 rfl (lv_at hl 1 rfl) ?_
            refine va_get (D := D) (ci := 2) (v := .int asd) (C := RX2) (T := TX2) (N := 9) hx hb hts hinX2 hown hK hP 0 rfl rfl 4 (by decide) (hts (.fieldLink RX2 54 "HoldUnless" "assumed" "I") (by decide +kernel)) (fun _ h9 => h9) rfl dX2_why_47 ?_
            refine lv_aload_n hx hb dX2_why_50 rfl (lv_at hl 1 rfl) ?_
            refine va_get (D := D) (ci := 2) (v := .ref (h 3)) (C := RX2) (T := TX2) (N := 9) hx hb hts hinX2 hown hK hP 0 rfl rfl 1 (by decide) (hts (.fieldLink RX2 19 "HoldUnless" "book" "LHoldUnless$RuleBook;") (by decide +kernel)) (fun _ h9 => h9) rfl dX2_why_51 ?_
            refine va_getN (D := D) (ci := 0) (v := .int may) (C := RX0) (T := TX0) (N := 5) hx hb hts hinX0 hown hK hP 3 rfl rfl 1 (by decide) (hN.use 20 rfl) (fun _ h9 => h9) rfl dX2_why_54 ?_
            refine lv_iload hx hb dX2_why_57 (lv_at hl 0 rfl) ?_
            refine lv_iand hx hb dX2_why_59 ?_
            refine lv_ior hx hb dX2_why_60 ?_
            refine lv_istore (lv' := [(5, .int (asd ||| (may &&& (s_X2_standingSet n may hd fi un on asd i)))), (4, .int (s_X2_standingSet n may hd fi un on asd i)), (0, .ref (h 0)), (1, .int i), (2, .int a), (3, .int what)]) hx hb dX2_why_61 hl (by decide) rfl (fun ls hl => ?_)
            refine lv_iload hx hb dX2_why_63 (lv_at hl 0 rfl) ?_
            refine lv_iload_n hx hb dX2_why_65 rfl (lv_at hl 4 rfl) ?_
            refine ro_i (D := D) (va_runS (As := [.int (asd ||| (may &&& (s_X2_standingSet n may hd fi un on asd i))), .int a]) (rest := []) ⟨hx, hb, hml, hown, hts⟩ (c_X2_bitOf l D (asd ||| (may &&& (s_X2_standingSet n may hd fi un on asd i))) a  _) (va_cwS 2 hts gX2_why_X2_bitOf rfl rfl rfl (by decide +kernel) ⟨Nat.le_of_ble_eq_true rfl, Nat.le_of_ble_eq_true rfl⟩) ⟨cPre.blind, cPre.mk vP0 hKe vD0 hN⟩ rfl rfl hl.1 rfl (lv_room (Nat.le_of_ble_eq_true rfl)) dX2_why_66 ⟨Nat.zero_le _, Nat.zero_le _⟩) hS hA (fun H locs hkp0 hS => ?_)
            replace hP := hkp0 _ hP
            refine lv_iconst (v := 1) hx hb dX2_why_69 (by decide) ?_
            refine lv_icmp_ne (tgt := 84) hx hb dX2_why_70 (by decide) (fun c_70_6 => ?_) (fun c_70_6 => ?_)
            · refine lv_iconst (v := 1) hx hb dX2_why_84 (by decide) ?_
              refine lv_istore (lv' := [(6, .int 1), (5, .int (asd ||| (may &&& (s_X2_standingSet n may hd fi un on asd i)))), (4, .int (s_X2_standingSet n may hd fi un on asd i)), (0, .ref (h 0)), (1, .int i), (2, .int a), (3, .int what)]) hx hb dX2_why_85 hl (by decide) rfl (fun ls hl => ?_)
              have lp87_7 : ∀ (z_7 j87 : Nat), j87 + z_7 = 8 → ∀ (came : Int32), itE (f_X2_why_87 n may hd fi un on asd i a what) (asd ||| (may &&& (s_X2_standingSet n may hd fi un on asd i))) j87 = .inr came → ∀  (H : Heap) (locs : List Loc), va_P D vwCl (wX h cA by_ ln pl tk tp (nI n) may hd fi un sz2 may2 hd2 fi2 un2 on asd io ia kept tr) H → va_S (fun q : Nat => s.heap.size ≤ q) s.heap H locs → ∀ ls : Array Slot, lv_has ls 8 [(0, .ref (h 0)), (1, .int i), (2, .int a), (3, .int what), (4, .int (s_X2_standingSet n may hd fi un on asd i)), (5, .int came), (6, .int (nI (j87 + 1)))] → W p l e (headSpec wsX2_why ({ frames := 5, cells := 0, slots := 0, locals := 120 })).room s m ([.ref (h 0), .int i, .int a, .int what] : List Value).toArray below meth c H locs 0 0 (MQ below (va_Qi (fun r (_ : Unit) => r = s_X2_why n may hd fi un on asd i a what) (fun _ _ => True) (fun q => s.heap.size ≤ q)) ([.ref (h 0), .int i, .int a, .int what] : List Value).toArray s 0 0 (fun q => s.heap.size ≤ q)) (F0 m 87 ls []) := by
                intro z_7
                induction z_7 with
                | zero =>
                  intro j87 hj87 came he87   H locs hP hS ls hl
                  obtain rfl : 8 = j87 := by omega
                  refine lv_iload hx hb dX2_why_87 (lv_at hl 6 rfl) ?_
                  refine lv_bipush (v := 8) hx hb dX2_why_89 (by decide) ?_
                  refine lv_icmp_gt (tgt := 154) hx hb dX2_why_91 (by decide) (fun _ => ?_) (fun hh_9 => absurd (nI_lt (a := 8) (b := 8 + 1) (by omega) (by omega)) hh_9)
                  refine lv_bipush (v := (-9)) hx hb dX2_why_154 (by decide) ?_
                  exact ro_iret hx hb hr hS hlocks (show s_X2_why n may hd fi un on asd i a what = (-9) from by (unfold s_X2_why; (try dsimp only); (try rw [if_neg c_1_1]); (try rw [if_neg c_8_2]); (try rw [if_neg c_15_3]); (try rw [if_neg c_31_4]); (try rw [if_neg c_40_5]); (try rw [if_neg c_70_6]); (try rw [he87]); (try dsimp only [onE]); first | done | rfl)).symm dX2_why_156
                | succ z_7 ih87 =>
                  intro j87 hj87 came he87   H locs hP hS ls hl
                  refine lv_iload hx hb dX2_why_87 (lv_at hl 6 rfl) ?_
                  refine lv_bipush (v := 8) hx hb dX2_why_89 (by decide) ?_
                  refine lv_icmp_gt (tgt := 154) hx hb dX2_why_91 (by decide) (fun hh_11 => absurd hh_11 (nI_nlt (a := 8) (b := j87 + 1) (by omega) (by omega))) (fun _ => ?_)
                  refine lv_aload_n hx hb dX2_why_94 rfl (lv_at hl 0 rfl) ?_
                  refine va_get (D := D) (ci := 2) (v := .ref (h 3)) (C := RX2) (T := TX2) (N := 9) hx hb hts hinX2 hown hK hP 0 rfl rfl 1 (by decide) (hts (.fieldLink RX2 19 "HoldUnless" "book" "LHoldUnless$RuleBook;") (by decide +kernel)) (fun _ h9 => h9) rfl dX2_why_95 ?_
                  refine lv_iload_n hx hb dX2_why_98 rfl (lv_at hl 2 rfl) ?_
                  refine lv_iload hx hb dX2_why_99 (lv_at hl 5 rfl) ?_
                  refine lv_aload_n hx hb dX2_why_101 rfl (lv_at hl 0 rfl) ?_
                  refine va_get (D := D) (ci := 2) (v := .int on) (C := RX2) (T := TX2) (N := 9) hx hb hts hinX2 hown hK hP 0 rfl rfl 3 (by decide) (hts (.fieldLink RX2 51 "HoldUnless" "on" "I") (by decide +kernel)) (fun _ h9 => h9) rfl dX2_why_102 ?_
                  refine lv_iload hx hb dX2_why_105 (lv_at hl 4 rfl) ?_
                  have hPc := hP.sub (ws' := (wB (h 3) (h 4) (h 5) (h 6) (cA 4) (cA 5) (cA 6) (nI n) may hd fi un)) [3, 4, 5, 6] rfl
                  have hDc := hD.sub (ws' := (wB (h 3) (h 4) (h 5) (h 6) (cA 4) (cA 5) (cA 6) (nI n) may hd fi un)) [3, 4, 5, 6] (by decide) rfl
                  have hKc := hK.sub (tys' := (tB (h 3) (h 4) (h 5) (h 6) (cA 4) (cA 5) (cA 6))) [1, 2, 3] rfl
                  refine ro_i (D := D) (va_runVN (As := [.int a, .int came, .int on, .int (s_X2_standingSet n may hd fi un on asd i)]) (rest := []) ⟨hx, hb, hml, hown, hts⟩ (c_X0_firstRuleBringing l D (h 3) (h 4) (h 5) (h 6) (cA 4) (cA 5) (cA 6) n may hd fi un a came on (s_X2_standingSet n may hd fi un on asd i) (by first | assumption | omega) _) ⟨(va_cnB 4 hts gX2_why_X0_firstRuleBringing_n104 rfl rfl rfl (hN.nw 11 rfl) (hts (.initialized RX0) (by decide +kernel)) (by decide +kernel) ⟨Nat.le_of_ble_eq_true rfl, Nat.le_of_ble_eq_true rfl⟩), hts (.instanceMethod yX0_firstRuleBringing) (by decide +kernel), hts (.selects RX0 yX0_firstRuleBringing yX0_firstRuleBringing) (by decide +kernel)⟩ ⟨cPre.blind, va_recv hKc hPc (ci := 0) (q0 := 0) rfl rfl, cPre.mk hPc hKc hDc hN⟩ rfl rfl hl.1 rfl (lv_room (Nat.le_of_ble_eq_true rfl)) dX2_why_107 ⟨Nat.zero_le _, Nat.zero_le _⟩) hS hA (fun H locs hkp0 hS => ?_)
                  replace hP := hkp0 _ hP
                  refine lv_istore (lv' := [(7, .int (s_X0_firstRuleBringing n hd fi un a came on (s_X2_standingSet n may hd fi un on asd i))), (0, .ref (h 0)), (1, .int i), (2, .int a), (3, .int what), (4, .int (s_X2_standingSet n may hd fi un on asd i)), (5, .int came), (6, .int (nI (j87 + 1)))]) hx hb dX2_why_110 hl (by decide) rfl (fun ls hl => ?_)
                  refine lv_iload hx hb dX2_why_112 (lv_at hl 0 rfl) ?_
                  refine lv_bipush (v := (-9)) hx hb dX2_why_114 (by decide) ?_
                  refine lv_icmp_eq (tgt := 131) hx hb dX2_why_116 (by decide) (fun c_116_12 => ?_) (fun c_116_12 => ?_)
                  · refine lv_aload_n hx hb dX2_why_131 rfl (lv_at hl 1 rfl) ?_
                    refine va_get (D := D) (ci := 2) (v := .ref (h 3)) (C := RX2) (T := TX2) (N := 9) hx hb hts hinX2 hown hK hP 0 rfl rfl 1 (by decide) (hts (.fieldLink RX2 19 "HoldUnless" "book" "LHoldUnless$RuleBook;") (by decide +kernel)) (fun _ h9 => h9) rfl dX2_why_132 ?_
                    refine lv_iload hx hb dX2_why_135 (lv_at hl 6 rfl) ?_
                    refine lv_aload_n hx hb dX2_why_137 rfl (lv_at hl 1 rfl) ?_
                    refine va_get (D := D) (ci := 2) (v := .int on) (C := RX2) (T := TX2) (N := 9) hx hb hts hinX2 hown hK hP 0 rfl rfl 3 (by decide) (hts (.fieldLink RX2 51 "HoldUnless" "on" "I") (by decide +kernel)) (fun _ h9 => h9) rfl dX2_why_138 ?_
                    refine lv_iload hx hb dX2_why_141 (lv_at hl 5 rfl) ?_
                    have hPc := hP.sub (ws' := (wB (h 3) (h 4) (h 5) (h 6) (cA 4) (cA 5) (cA 6) (nI n) may hd fi un)) [3, 4, 5, 6] rfl
                    have hDc := hD.sub (ws' := (wB (h 3) (h 4) (h 5) (h 6) (cA 4) (cA 5) (cA 6) (nI n) may hd fi un)) [3, 4, 5, 6] (by decide) rfl
                    have hKc := hK.sub (tys' := (tB (h 3) (h 4) (h 5) (h 6) (cA 4) (cA 5) (cA 6))) [1, 2, 3] rfl
                    refine ro_i (D := D) (va_runVN (As := [.int came, .int on, .int (s_X2_standingSet n may hd fi un on asd i)]) (rest := []) ⟨hx, hb, hml, hown, hts⟩ (c_X0_nextRound l D (h 3) (h 4) (h 5) (h 6) (cA 4) (cA 5) (cA 6) n may hd fi un came on (s_X2_standingSet n may hd fi un on asd i) (by first | assumption | omega) _) ⟨(va_cnB 3 hts gX2_why_X0_nextRound_n108 rfl rfl rfl (hN.nw 12 rfl) (hts (.initialized RX0) (by decide +kernel)) (by decide +kernel) ⟨Nat.le_of_ble_eq_true rfl, Nat.le_of_ble_eq_true rfl⟩), hts (.instanceMethod yX0_nextRound) (by decide +kernel), hts (.selects RX0 yX0_nextRound yX0_nextRound) (by decide +kernel)⟩ ⟨cPre.blind, va_recv hKc hPc (ci := 0) (q0 := 0) rfl rfl, cPre.mk hPc hKc hDc hN⟩ rfl rfl hl.1 rfl (lv_room (Nat.le_of_ble_eq_true rfl)) dX2_why_143 ⟨Nat.zero_le _, Nat.zero_le _⟩) hS hA (fun H locs hkp0 hS => ?_)
                    replace hP := hkp0 _ hP
                    refine lv_istore (lv' := [(5, .int (s_X0_nextRound n hd fi un came on (s_X2_standingSet n may hd fi un on asd i))), (7, .int (s_X0_firstRuleBringing n hd fi un a came on (s_X2_standingSet n may hd fi un on asd i))), (0, .ref (h 0)), (1, .int i), (2, .int a), (3, .int what), (4, .int (s_X2_standingSet n may hd fi un on asd i)), (6, .int (nI (j87 + 1)))]) hx hb dX2_why_146 hl (by decide) rfl (fun ls hl => ?_)
                    refine lv_iinc (v := nI ((j87 + 1) + 1)) (lv' := [(6, .int (nI ((j87 + 1) + 1))), (5, .int (s_X0_nextRound n hd fi un came on (s_X2_standingSet n may hd fi un on asd i))), (7, .int (s_X0_firstRuleBringing n hd fi un a came on (s_X2_standingSet n may hd fi un on asd i))), (0, .ref (h 0)), (1, .int i), (2, .int a), (3, .int what), (4, .int (s_X2_standingSet n may hd fi un on asd i))]) hx hb dX2_why_148 hl (k := 7) rfl (inc_nI (j87 + 1)) (by decide) rfl (fun ls hl => ?_)
                    refine lv_goto (tgt := 87) hx hb dX2_why_151 (by decide) ?_
                    exact ih87 (j87 + 1) (by omega) (s_X0_nextRound n hd fi un came on (s_X2_standingSet n may hd fi un on asd i)) (itE_succ he87 (by (unfold f_X2_why_87; (try dsimp only); (try rw [if_pos c_116_12]); first | done | rfl)))   _ _ hP hS _ (lv_sub hl [3, 4, 5, 6, 7, 1, 0] rfl)
                  · refine lv_iload_n hx hb dX2_why_119 rfl (lv_at hl 4 rfl) ?_
                    refine lv_if_ne (tgt := 128) hx hb dX2_why_120 (by decide) (fun c_120_13 => ?_) (fun c_120_13 => ?_)
                    · refine lv_iload hx hb dX2_why_128 (lv_at hl 0 rfl) ?_
                      have hs_14 : itE (f_X2_why_87 n may hd fi un on asd i a what) (asd ||| (may &&& (s_X2_standingSet n may hd fi un on asd i))) (j87 + 1) = (.inl (s_X0_firstRuleBringing n hd fi un a came on (s_X2_standingSet n may hd fi un on asd i))) := itE_succ he87 (by (unfold f_X2_why_87; (try dsimp only); (try rw [if_neg c_116_12]); (try rw [if_neg c_120_13]); first | done | rfl))
                      have hn_15 := itE_stop hs_14 8 (by omega)
                      exact ro_iret hx hb hr hS hlocks (show s_X2_why n may hd fi un on asd i a what = (s_X0_firstRuleBringing n hd fi un a came on (s_X2_standingSet n may hd fi un on asd i)) from by (unfold s_X2_why; (try dsimp only); (try rw [if_neg c_1_1]); (try rw [if_neg c_8_2]); (try rw [if_neg c_15_3]); (try rw [if_neg c_31_4]); (try rw [if_neg c_40_5]); (try rw [if_neg c_70_6]); (try rw [hn_15]); (try dsimp only [onE]); first | done | rfl)).symm dX2_why_130
                    · refine lv_iload hx hb dX2_why_123 (lv_at hl 7 rfl) ?_
                      refine lv_goto (tgt := 130) hx hb dX2_why_125 (by decide) ?_
                      have hs_16 : itE (f_X2_why_87 n may hd fi un on asd i a what) (asd ||| (may &&& (s_X2_standingSet n may hd fi un on asd i))) (j87 + 1) = (.inl (nI (j87 + 1))) := itE_succ he87 (by (unfold f_X2_why_87; (try dsimp only); (try rw [if_neg c_116_12]); (try rw [if_pos c_120_13]); first | done | rfl))
                      have hn_17 := itE_stop hs_16 8 (by omega)
                      exact ro_iret hx hb hr hS hlocks (show s_X2_why n may hd fi un on asd i a what = nI (j87 + 1) from by (unfold s_X2_why; (try dsimp only); (try rw [if_neg c_1_1]); (try rw [if_neg c_8_2]); (try rw [if_neg c_15_3]); (try rw [if_neg c_31_4]); (try rw [if_neg c_40_5]); (try rw [if_neg c_70_6]); (try rw [hn_17]); (try dsimp only [onE]); first | done | rfl)).symm dX2_why_130
              exact lp87_7 8 0 (by omega) (asd ||| (may &&& (s_X2_standingSet n may hd fi un on asd i))) (itE_zero _ _)   _ _ hP hS _ (lv_sub hl [3, 4, 5, 6, 2, 1, 0] rfl)
            · refine lv_iload_n hx hb dX2_why_73 rfl (lv_at hl 5 rfl) ?_
              refine lv_if_ne (tgt := 81) hx hb dX2_why_74 (by decide) (fun c_74_18 => ?_) (fun c_74_18 => ?_)
              · refine lv_bipush (v := (-9)) hx hb dX2_why_81 (by decide) ?_
                exact ro_iret hx hb hr hS hlocks (show s_X2_why n may hd fi un on asd i a what = (-9) from by (unfold s_X2_why; (try dsimp only); (try rw [if_neg c_1_1]); (try rw [if_neg c_8_2]); (try rw [if_neg c_15_3]); (try rw [if_neg c_31_4]); (try rw [if_neg c_40_5]); (try rw [if_pos c_70_6]); (try rw [if_neg c_74_18]); first | done | rfl)).symm dX2_why_83
              · refine lv_iconst (v := 0) hx hb dX2_why_77 (by decide) ?_
                refine lv_goto (tgt := 83) hx hb dX2_why_78 (by decide) ?_
                exact ro_iret hx hb hr hS hlocks (show s_X2_why n may hd fi un on asd i a what = 0 from by (unfold s_X2_why; (try dsimp only); (try rw [if_neg c_1_1]); (try rw [if_neg c_8_2]); (try rw [if_neg c_15_3]); (try rw [if_neg c_31_4]); (try rw [if_neg c_40_5]); (try rw [if_pos c_70_6]); (try rw [if_pos c_74_18]); first | done | rfl)).symm dX2_why_83
          · refine lv_bipush (v := (-9)) hx hb dX2_why_43 (by decide) ?_
            exact ro_iret hx hb hr hS hlocks (show s_X2_why n may hd fi un on asd i a what = (-9) from by (unfold s_X2_why; (try dsimp only); (try rw [if_neg c_1_1]); (try rw [if_neg c_8_2]); (try rw [if_neg c_15_3]); (try rw [if_neg c_31_4]); (try rw [if_pos c_40_5]); first | done | rfl)).symm dX2_why_45
      · refine lv_iconst (v := (-1)) hx hb dX2_why_18 (by decide) ?_
        exact ro_iret hx hb hr hS hlocks (show s_X2_why n may hd fi un on asd i a what = (-1) from by (unfold s_X2_why; (try dsimp only); (try rw [if_neg c_1_1]); (try rw [if_neg c_8_2]); (try rw [if_pos c_15_3]); first | done | rfl)).symm dX2_why_19

def f_X2_hangs_13 (n : Nat) (hd : Nat → Int32) (fi : Nat → Int32) (un : Nat → Int32) (on : Int32) (what : Int32) (j13 : Nat) (st : Int32) : Int32 := match st with | hanging => (if what = 0 then (if (s_X0_hangsByIf n hd fi (nI j13) on) = 0 then hanging else (hanging ||| (1 <<< ((nI j13) &&& 31)))) else (if (s_X0_isTangled n hd fi un (nI j13) on) = 0 then hanging else (hanging ||| (1 <<< ((nI j13) &&& 31)))))
def s_X2_hangs (n : Nat) (hd : Nat → Int32) (fi : Nat → Int32) (un : Nat → Int32) (on : Int32) (what : Int32) : Int32 := (if (s_X2_isBit what) = 0 then (-1) else (match itr (f_X2_hangs_13 n hd fi un on what) 0 8 with | hanging => hanging))
set_option maxHeartbeats 4000000 in
set_option maxRecDepth 100000 in
theorem c_X2_hangs (l : Launch) (D : va_G) (h : Nat → Nat) (cA : Nat → ClassId) (n : Nat) (by_ : Nat → Int32) (ln : Int32) (pl : Int32) (tk : Int32) (tp : Int32) (may : Int32) (hd : Nat → Int32) (fi : Nat → Int32) (un : Nat → Int32) (sz2 : Int32) (may2 : Int32) (hd2 : Nat → Int32) (fi2 : Nat → Int32) (un2 : Nat → Int32) (on : Int32) (asd : Int32) (io : Nat → Int32) (ia : Nat → Int32) (kept : Int32) (tr : Int64) (what : Int32) (hn : n ≤ 10) (sz : Nat) : Met l yX2_hangs wsX2_hangs ({ frames := 4, cells := 0, slots := 0, locals := 94 }) (va_Pc [.ref (h 0), .int what] (cPre D (tX h cA) (wX h cA by_ ln pl tk tp (nI n) may hd fi un sz2 may2 hd2 fi2 un2 on asd io ia kept tr) sz)) (va_Qi (fun r (_ : Unit) => r = s_X2_hangs n hd fi un on what) (fun _ _ => True) (fun q => sz ≤ q)) 0 0 (fun q => sz ≤ q) := by
  refine Met.ofW (cc := cX2_hangs) (maxL := 5) (ret := (some .int)) (by decide) rfl ?_
  intro p e s m args below meth c s₁ B hml hv
  obtain ⟨rfl, hsz, hP, hK, hD, hN⟩ := hv
  have hx := B.exec
  have hb := B.bytes
  have hr := B.returns
  have hts := atoms_spec (ws := wsX2_hangs) B.pre
  have hown : s.vm.findClass RX2 = some m.cls := findClass_of_methodNamed B.named
  have hlocks := B.notSynchronized
  have hinX2 : ∀ w ∈ wsX20, w ∈ wsX2_hangs := fun w h => List.mem_cons_of_mem _ (List.mem_append_left _ (List.mem_append_right _ h))
  subst hsz
  obtain ⟨A, hAe⟩ : ∃ A : Nat → Prop, A = (fun q : Nat => s.heap.size ≤ q) := ⟨_, rfl⟩
  have hA : ∀ q : Nat, s.heap.size ≤ q → A q := fun q h => by rw [hAe]; exact h
  have hS : va_S A s.heap s.heap [] := va_S.rf
  subst hAe
  have hl := lv_entry ([.ref (h 0), .int what]) (n := 5) (Nat.le_of_ble_eq_true rfl)
  rw [lg_entry_eq]
  generalize (lg_sl ([.ref (h 0), .int what]) ++ List.replicate (5 - (lg_sl ([.ref (h 0), .int what])).length) Slot.unset).toArray = ls at hl ⊢
  replace hl : lv_has ls 5 [(0, .ref (h 0)), (1, .int what)] := hl
  have hKe := hK.sub (tys' := []) [] rfl
  refine lv_iload_n hx hb dX2_hangs_0 rfl (lv_at hl 1 rfl) ?_
  refine ro_i (D := D) (va_runS (As := [.int what]) (rest := []) ⟨hx, hb, hml, hown, hts⟩ (c_X2_isBit l D what  _) (va_cwS 1 hts gX2_hangs_X2_isBit rfl rfl rfl (by decide +kernel) ⟨Nat.le_of_ble_eq_true rfl, Nat.le_of_ble_eq_true rfl⟩) ⟨cPre.blind, cPre.mk vP0 hKe vD0 hN⟩ rfl rfl hl.1 rfl (lv_room (Nat.le_of_ble_eq_true rfl)) dX2_hangs_1 ⟨Nat.zero_le _, Nat.zero_le _⟩) hS hA (fun H locs hkp0 hS => ?_)
  replace hP := hkp0 _ hP
  refine lv_if_ne (tgt := 9) hx hb dX2_hangs_4 (by decide) (fun c_4_1 => ?_) (fun c_4_1 => ?_)
  · refine lv_iconst (v := 0) hx hb dX2_hangs_9 (by decide) ?_
    refine lv_istore_n (lv' := [(2, .int 0), (0, .ref (h 0)), (1, .int what)]) hx hb dX2_hangs_10 rfl hl (by decide) rfl (fun ls hl => ?_)
    refine lv_iconst (v := 0) hx hb dX2_hangs_11 (by decide) ?_
    refine lv_istore_n (lv' := [(3, .int 0), (2, .int 0), (0, .ref (h 0)), (1, .int what)]) hx hb dX2_hangs_12 rfl hl (by decide) rfl (fun ls hl => ?_)
    have lp13_2 : ∀ (z_2 j13 : Nat), j13 + z_2 = 8 → ∀ (hanging : Int32), hanging = itr (f_X2_hangs_13 n hd fi un on what) 0 j13 → ∀  (H : Heap) (locs : List Loc), va_P D vwCl (wX h cA by_ ln pl tk tp (nI n) may hd fi un sz2 may2 hd2 fi2 un2 on asd io ia kept tr) H → va_S (fun q : Nat => s.heap.size ≤ q) s.heap H locs → ∀ ls : Array Slot, lv_has ls 5 [(0, .ref (h 0)), (1, .int what), (2, .int hanging), (3, .int (nI j13))] → W p l e (headSpec wsX2_hangs ({ frames := 4, cells := 0, slots := 0, locals := 94 })).room s m ([.ref (h 0), .int what] : List Value).toArray below meth c H locs 0 0 (MQ below (va_Qi (fun r (_ : Unit) => r = s_X2_hangs n hd fi un on what) (fun _ _ => True) (fun q => s.heap.size ≤ q)) ([.ref (h 0), .int what] : List Value).toArray s 0 0 (fun q => s.heap.size ≤ q)) (F0 m 13 ls []) := by
      intro z_2
      induction z_2 with
      | zero =>
        intro j13 hj13 hanging he13   H locs hP hS ls hl
        obtain rfl : 8 = j13 := by omega
        refine lv_iload_n hx hb dX2_hangs_13 rfl (lv_at hl 3 rfl) ?_
        refine lv_bipush (v := 8) hx hb dX2_hangs_14 (by decide) ?_
        refine lv_icmp_ge (tgt := 69) hx hb dX2_hangs_16 (by decide) (fun _ => ?_) (fun hh_4 => absurd (nI_le (a := 8) (b := 8) (by omega) (by omega)) hh_4)
        refine lv_iload_n hx hb dX2_hangs_69 rfl (lv_at hl 2 rfl) ?_
        exact ro_iret hx hb hr hS hlocks (show s_X2_hangs n hd fi un on what = hanging from by (unfold s_X2_hangs; (try dsimp only); (try rw [if_neg c_4_1]); (try rw [← he13]); (try dsimp only); first | done | rfl)).symm dX2_hangs_70
      | succ z_2 ih13 =>
        intro j13 hj13 hanging he13   H locs hP hS ls hl
        refine lv_iload_n hx hb dX2_hangs_13 rfl (lv_at hl 3 rfl) ?_
        refine lv_bipush (v := 8) hx hb dX2_hangs_14 (by decide) ?_
        refine lv_icmp_ge (tgt := 69) hx hb dX2_hangs_16 (by decide) (fun hh_6 => absurd hh_6 (nI_ge (a := j13) (b := 8) (by omega) (by omega))) (fun _ => ?_)
        refine lv_iload_n hx hb dX2_hangs_19 rfl (lv_at hl 1 rfl) ?_
        refine lv_if_ne (tgt := 38) hx hb dX2_hangs_20 (by decide) (fun c_20_7 => ?_) (fun c_20_7 => ?_)
        · refine lv_aload_n hx hb dX2_hangs_38 rfl (lv_at hl 0 rfl) ?_
          refine va_get (D := D) (ci := 2) (v := .ref (h 3)) (C := RX2) (T := TX2) (N := 9) hx hb hts hinX2 hown hK hP 0 rfl rfl 1 (by decide) (hts (.fieldLink RX2 19 "HoldUnless" "book" "LHoldUnless$RuleBook;") (by decide +kernel)) (fun _ h9 => h9) rfl dX2_hangs_39 ?_
          refine lv_iload_n hx hb dX2_hangs_42 rfl (lv_at hl 3 rfl) ?_
          refine lv_aload_n hx hb dX2_hangs_43 rfl (lv_at hl 0 rfl) ?_
          refine va_get (D := D) (ci := 2) (v := .int on) (C := RX2) (T := TX2) (N := 9) hx hb hts hinX2 hown hK hP 0 rfl rfl 3 (by decide) (hts (.fieldLink RX2 51 "HoldUnless" "on" "I") (by decide +kernel)) (fun _ h9 => h9) rfl dX2_hangs_44 ?_
          have hPc := hP.sub (ws' := (wB (h 3) (h 4) (h 5) (h 6) (cA 4) (cA 5) (cA 6) (nI n) may hd fi un)) [3, 4, 5, 6] rfl
          have hDc := hD.sub (ws' := (wB (h 3) (h 4) (h 5) (h 6) (cA 4) (cA 5) (cA 6) (nI n) may hd fi un)) [3, 4, 5, 6] (by decide) rfl
          have hKc := hK.sub (tys' := (tB (h 3) (h 4) (h 5) (h 6) (cA 4) (cA 5) (cA 6))) [1, 2, 3] rfl
          refine ro_i (D := D) (va_runVN (As := [.int (nI j13), .int on]) (rest := []) ⟨hx, hb, hml, hown, hts⟩ (c_X0_isTangled l D (h 3) (h 4) (h 5) (h 6) (cA 4) (cA 5) (cA 6) n may hd fi un (nI j13) on (by first | assumption | omega) _) ⟨(va_cnB 2 hts gX2_hangs_X0_isTangled_n115 rfl rfl rfl (hN.nw 14 rfl) (hts (.initialized RX0) (by decide +kernel)) (by decide +kernel) ⟨Nat.le_of_ble_eq_true rfl, Nat.le_of_ble_eq_true rfl⟩), hts (.instanceMethod yX0_isTangled) (by decide +kernel), hts (.selects RX0 yX0_isTangled yX0_isTangled) (by decide +kernel)⟩ ⟨cPre.blind, va_recv hKc hPc (ci := 0) (q0 := 0) rfl rfl, cPre.mk hPc hKc hDc hN⟩ rfl rfl hl.1 rfl (lv_room (Nat.le_of_ble_eq_true rfl)) dX2_hangs_47 ⟨Nat.zero_le _, Nat.zero_le _⟩) hS hA (fun H locs hkp0 hS => ?_)
          replace hP := hkp0 _ hP
          refine lv_istore (lv' := [(4, .int (s_X0_isTangled n hd fi un (nI j13) on)), (0, .ref (h 0)), (1, .int what), (2, .int hanging), (3, .int (nI j13))]) hx hb dX2_hangs_50 hl (by decide) rfl (fun ls hl => ?_)
          refine lv_iload hx hb dX2_hangs_52 (lv_at hl 0 rfl) ?_
          refine lv_if_eq (tgt := 63) hx hb dX2_hangs_54 (by decide) (fun c_54_8 => ?_) (fun c_54_8 => ?_)
          · refine lv_iinc (v := nI (j13 + 1)) (lv' := [(3, .int (nI (j13 + 1))), (4, .int (s_X0_isTangled n hd fi un (nI j13) on)), (0, .ref (h 0)), (1, .int what), (2, .int hanging)]) hx hb dX2_hangs_63 hl (k := 4) rfl (inc_nI j13) (by decide) rfl (fun ls hl => ?_)
            refine lv_goto (tgt := 13) hx hb dX2_hangs_66 (by decide) ?_
            exact ih13 (j13 + 1) (by omega) hanging (itr_step he13 (by (unfold f_X2_hangs_13; (try dsimp only); (try rw [if_neg c_20_7]); (try rw [if_pos c_54_8]); first | done | rfl)))   _ _ hP hS _ (lv_sub hl [2, 3, 4, 0] rfl)
          · refine lv_iload_n hx hb dX2_hangs_57 rfl (lv_at hl 3 rfl) ?_
            refine lv_iconst (v := 1) hx hb dX2_hangs_58 (by decide) ?_
            refine lv_iload_n hx hb dX2_hangs_59 rfl (lv_at hl 4 rfl) ?_
            refine lv_ishl hx hb dX2_hangs_60 ?_
            refine lv_ior hx hb dX2_hangs_61 ?_
            refine lv_istore_n (lv' := [(2, .int (hanging ||| (1 <<< ((nI j13) &&& 31)))), (4, .int (s_X0_isTangled n hd fi un (nI j13) on)), (0, .ref (h 0)), (1, .int what), (3, .int (nI j13))]) hx hb dX2_hangs_62 rfl hl (by decide) rfl (fun ls hl => ?_)
            refine lv_iinc (v := nI (j13 + 1)) (lv' := [(3, .int (nI (j13 + 1))), (2, .int (hanging ||| (1 <<< ((nI j13) &&& 31)))), (4, .int (s_X0_isTangled n hd fi un (nI j13) on)), (0, .ref (h 0)), (1, .int what)]) hx hb dX2_hangs_63 hl (k := 4) rfl (inc_nI j13) (by decide) rfl (fun ls hl => ?_)
            refine lv_goto (tgt := 13) hx hb dX2_hangs_66 (by decide) ?_
            exact ih13 (j13 + 1) (by omega) (hanging ||| (1 <<< ((nI j13) &&& 31))) (itr_step he13 (by (unfold f_X2_hangs_13; (try dsimp only); (try rw [if_neg c_20_7]); (try rw [if_neg c_54_8]); first | done | rfl)))   _ _ hP hS _ (lv_sub hl [3, 4, 1, 0] rfl)
        · refine lv_aload_n hx hb dX2_hangs_23 rfl (lv_at hl 0 rfl) ?_
          refine va_get (D := D) (ci := 2) (v := .ref (h 3)) (C := RX2) (T := TX2) (N := 9) hx hb hts hinX2 hown hK hP 0 rfl rfl 1 (by decide) (hts (.fieldLink RX2 19 "HoldUnless" "book" "LHoldUnless$RuleBook;") (by decide +kernel)) (fun _ h9 => h9) rfl dX2_hangs_24 ?_
          refine lv_iload_n hx hb dX2_hangs_27 rfl (lv_at hl 3 rfl) ?_
          refine lv_aload_n hx hb dX2_hangs_28 rfl (lv_at hl 0 rfl) ?_
          refine va_get (D := D) (ci := 2) (v := .int on) (C := RX2) (T := TX2) (N := 9) hx hb hts hinX2 hown hK hP 0 rfl rfl 3 (by decide) (hts (.fieldLink RX2 51 "HoldUnless" "on" "I") (by decide +kernel)) (fun _ h9 => h9) rfl dX2_hangs_29 ?_
          have hPc := hP.sub (ws' := (wB (h 3) (h 4) (h 5) (h 6) (cA 4) (cA 5) (cA 6) (nI n) may hd fi un)) [3, 4, 5, 6] rfl
          have hDc := hD.sub (ws' := (wB (h 3) (h 4) (h 5) (h 6) (cA 4) (cA 5) (cA 6) (nI n) may hd fi un)) [3, 4, 5, 6] (by decide) rfl
          have hKc := hK.sub (tys' := (tB (h 3) (h 4) (h 5) (h 6) (cA 4) (cA 5) (cA 6))) [1, 2, 3] rfl
          refine ro_i (D := D) (va_runVN (As := [.int (nI j13), .int on]) (rest := []) ⟨hx, hb, hml, hown, hts⟩ (c_X0_hangsByIf l D (h 3) (h 4) (h 5) (h 6) (cA 4) (cA 5) (cA 6) n may hd fi un (nI j13) on (by first | assumption | omega) _) ⟨(va_cnB 2 hts gX2_hangs_X0_hangsByIf_n111 rfl rfl rfl (hN.nw 13 rfl) (hts (.initialized RX0) (by decide +kernel)) (by decide +kernel) ⟨Nat.le_of_ble_eq_true rfl, Nat.le_of_ble_eq_true rfl⟩), hts (.instanceMethod yX0_hangsByIf) (by decide +kernel), hts (.selects RX0 yX0_hangsByIf yX0_hangsByIf) (by decide +kernel)⟩ ⟨cPre.blind, va_recv hKc hPc (ci := 0) (q0 := 0) rfl rfl, cPre.mk hPc hKc hDc hN⟩ rfl rfl hl.1 rfl (lv_room (Nat.le_of_ble_eq_true rfl)) dX2_hangs_32 ⟨Nat.zero_le _, Nat.zero_le _⟩) hS hA (fun H locs hkp0 hS => ?_)
          replace hP := hkp0 _ hP
          refine lv_goto (tgt := 50) hx hb dX2_hangs_35 (by decide) ?_
          refine lv_istore (lv' := [(4, .int (s_X0_hangsByIf n hd fi (nI j13) on)), (0, .ref (h 0)), (1, .int what), (2, .int hanging), (3, .int (nI j13))]) hx hb dX2_hangs_50 hl (by decide) rfl (fun ls hl => ?_)
          refine lv_iload hx hb dX2_hangs_52 (lv_at hl 0 rfl) ?_
          refine lv_if_eq (tgt := 63) hx hb dX2_hangs_54 (by decide) (fun c_54_9 => ?_) (fun c_54_9 => ?_)
          · refine lv_iinc (v := nI (j13 + 1)) (lv' := [(3, .int (nI (j13 + 1))), (4, .int (s_X0_hangsByIf n hd fi (nI j13) on)), (0, .ref (h 0)), (1, .int what), (2, .int hanging)]) hx hb dX2_hangs_63 hl (k := 4) rfl (inc_nI j13) (by decide) rfl (fun ls hl => ?_)
            refine lv_goto (tgt := 13) hx hb dX2_hangs_66 (by decide) ?_
            exact ih13 (j13 + 1) (by omega) hanging (itr_step he13 (by (unfold f_X2_hangs_13; (try dsimp only); (try rw [if_pos c_20_7]); (try rw [if_pos c_54_9]); first | done | rfl)))   _ _ hP hS _ (lv_sub hl [2, 3, 4, 0] rfl)
          · refine lv_iload_n hx hb dX2_hangs_57 rfl (lv_at hl 3 rfl) ?_
            refine lv_iconst (v := 1) hx hb dX2_hangs_58 (by decide) ?_
            refine lv_iload_n hx hb dX2_hangs_59 rfl (lv_at hl 4 rfl) ?_
            refine lv_ishl hx hb dX2_hangs_60 ?_
            refine lv_ior hx hb dX2_hangs_61 ?_
            refine lv_istore_n (lv' := [(2, .int (hanging ||| (1 <<< ((nI j13) &&& 31)))), (4, .int (s_X0_hangsByIf n hd fi (nI j13) on)), (0, .ref (h 0)), (1, .int what), (3, .int (nI j13))]) hx hb dX2_hangs_62 rfl hl (by decide) rfl (fun ls hl => ?_)
            refine lv_iinc (v := nI (j13 + 1)) (lv' := [(3, .int (nI (j13 + 1))), (2, .int (hanging ||| (1 <<< ((nI j13) &&& 31)))), (4, .int (s_X0_hangsByIf n hd fi (nI j13) on)), (0, .ref (h 0)), (1, .int what)]) hx hb dX2_hangs_63 hl (k := 4) rfl (inc_nI j13) (by decide) rfl (fun ls hl => ?_)
            refine lv_goto (tgt := 13) hx hb dX2_hangs_66 (by decide) ?_
            exact ih13 (j13 + 1) (by omega) (hanging ||| (1 <<< ((nI j13) &&& 31))) (itr_step he13 (by (unfold f_X2_hangs_13; (try dsimp only); (try rw [if_pos c_20_7]); (try rw [if_neg c_54_9]); first | done | rfl)))   _ _ hP hS _ (lv_sub hl [3, 4, 1, 0] rfl)
    exact lp13_2 8 0 (by omega) 0 (itr_zero _ _).symm   _ _ hP hS _ (lv_sub hl [2, 3, 1, 0] rfl)
  · refine lv_iconst (v := (-1)) hx hb dX2_hangs_7 (by decide) ?_
    exact ro_iret hx hb hr hS hlocks (show s_X2_hangs n hd fi un on what = (-1) from by (unfold s_X2_hangs; (try dsimp only); (try rw [if_pos c_4_1]); first | done | rfl)).symm dX2_hangs_8

def f_X2_givesUp_5 (n : Nat) (may : Int32) (hd : Nat → Int32) (fi : Nat → Int32) (un : Nat → Int32) (on : Int32) (asd : Int32) (j5 : Nat) (st : Int32) : Int32 := match st with | best => (if 3 < (s_J6_bitCount_0f7a4 (s_X0_brokenBy n hd fi un (nI j5) on)) then best else (if (s_X2_isBetter (s_X0_brokenBy n hd fi un (nI j5) on) best) = 0 then best else (if (s_X0_upholds n may hd fi un (nI j5) (on &&& ((s_X0_brokenBy n hd fi un (nI j5) on) ^^^ (-1))) asd) = 0 then best else (s_X0_brokenBy n hd fi un (nI j5) on))))
def s_X2_givesUp (n : Nat) (may : Int32) (hd : Nat → Int32) (fi : Nat → Int32) (un : Nat → Int32) (on : Int32) (asd : Int32) : Int32 := (match itr (f_X2_givesUp_5 n may hd fi un on asd) (-9) 256 with | best => best)
set_option maxHeartbeats 4000000 in
set_option maxRecDepth 100000 in
theorem c_X2_givesUp (l : Launch) (D : va_G) (h : Nat → Nat) (cA : Nat → ClassId) (n : Nat) (by_ : Nat → Int32) (ln : Int32) (pl : Int32) (tk : Int32) (tp : Int32) (may : Int32) (hd : Nat → Int32) (fi : Nat → Int32) (un : Nat → Int32) (sz2 : Int32) (may2 : Int32) (hd2 : Nat → Int32) (fi2 : Nat → Int32) (un2 : Nat → Int32) (on : Int32) (asd : Int32) (io : Nat → Int32) (ia : Nat → Int32) (kept : Int32) (tr : Int64) (hn : n ≤ 10) (sz : Nat) : Met l yX2_givesUp wsX2_givesUp ({ frames := 4, cells := 0, slots := 0, locals := 97 }) (va_Pc [.ref (h 0)] (cPre D (tX h cA) (wX h cA by_ ln pl tk tp (nI n) may hd fi un sz2 may2 hd2 fi2 un2 on asd io ia kept tr) sz)) (va_Qi (fun r (_ : Unit) => r = s_X2_givesUp n may hd fi un on asd) (fun _ _ => True) (fun q => sz ≤ q)) 0 0 (fun q => sz ≤ q) := by
  refine Met.ofW (cc := cX2_givesUp) (maxL := 5) (ret := (some .int)) (by decide) rfl ?_
  intro p e s m args below meth c s₁ B hml hv
  obtain ⟨rfl, hsz, hP, hK, hD, hN⟩ := hv
  have hx := B.exec
  have hb := B.bytes
  have hr := B.returns
  have hts := atoms_spec (ws := wsX2_givesUp) B.pre
  have hown : s.vm.findClass RX2 = some m.cls := findClass_of_methodNamed B.named
  have hlocks := B.notSynchronized
  have hinX2 : ∀ w ∈ wsX20, w ∈ wsX2_givesUp := fun w h => List.mem_cons_of_mem _ (List.mem_append_left _ (List.mem_append_right _ h))
  subst hsz
  obtain ⟨A, hAe⟩ : ∃ A : Nat → Prop, A = (fun q : Nat => s.heap.size ≤ q) := ⟨_, rfl⟩
  have hA : ∀ q : Nat, s.heap.size ≤ q → A q := fun q h => by rw [hAe]; exact h
  have hS : va_S A s.heap s.heap [] := va_S.rf
  subst hAe
  have hl := lv_entry ([.ref (h 0)]) (n := 5) (Nat.le_of_ble_eq_true rfl)
  rw [lg_entry_eq]
  generalize (lg_sl ([.ref (h 0)]) ++ List.replicate (5 - (lg_sl ([.ref (h 0)])).length) Slot.unset).toArray = ls at hl ⊢
  replace hl : lv_has ls 5 [(0, .ref (h 0))] := hl
  have hKe := hK.sub (tys' := []) [] rfl
  refine lv_bipush (v := (-9)) hx hb dX2_givesUp_0 (by decide) ?_
  refine lv_istore_n (lv' := [(1, .int (-9)), (0, .ref (h 0))]) hx hb dX2_givesUp_2 rfl hl (by decide) rfl (fun ls hl => ?_)
  refine lv_iconst (v := 0) hx hb dX2_givesUp_3 (by decide) ?_
  refine lv_istore_n (lv' := [(2, .int 0), (1, .int (-9)), (0, .ref (h 0))]) hx hb dX2_givesUp_4 rfl hl (by decide) rfl (fun ls hl => ?_)
  have lp5_1 : ∀ (z_1 j5 : Nat), j5 + z_1 = 256 → ∀ (best : Int32), best = itr (f_X2_givesUp_5 n may hd fi un on asd) (-9) j5 → ∀  (H : Heap) (locs : List Loc), va_P D vwCl (wX h cA by_ ln pl tk tp (nI n) may hd fi un sz2 may2 hd2 fi2 un2 on asd io ia kept tr) H → va_S (fun q : Nat => s.heap.size ≤ q) s.heap H locs → ∀ ls : Array Slot, lv_has ls 5 [(0, .ref (h 0)), (1, .int best), (2, .int (nI j5))] → W p l e (headSpec wsX2_givesUp ({ frames := 4, cells := 0, slots := 0, locals := 97 })).room s m ([.ref (h 0)] : List Value).toArray below meth c H locs 0 0 (MQ below (va_Qi (fun r (_ : Unit) => r = s_X2_givesUp n may hd fi un on asd) (fun _ _ => True) (fun q => s.heap.size ≤ q)) ([.ref (h 0)] : List Value).toArray s 0 0 (fun q => s.heap.size ≤ q)) (F0 m 5 ls []) := by
    intro z_1
    induction z_1 with
    | zero =>
      intro j5 hj5 best he5   H locs hP hS ls hl
      obtain rfl : 256 = j5 := by omega
      refine lv_iload_n hx hb dX2_givesUp_5 rfl (lv_at hl 2 rfl) ?_
      refine lv_sipush (v := 255) hx hb dX2_givesUp_6 (by decide) ?_
      refine lv_icmp_gt (tgt := 84) hx hb dX2_givesUp_9 (by decide) (fun _ => ?_) (fun hh_3 => absurd (nI_lt (a := 255) (b := 256) (by omega) (by omega)) hh_3)
      refine lv_iload_n hx hb dX2_givesUp_84 rfl (lv_at hl 1 rfl) ?_
      exact ro_iret hx hb hr hS hlocks (show s_X2_givesUp n may hd fi un on asd = best from by (unfold s_X2_givesUp; (try dsimp only); (try rw [← he5]); (try dsimp only); first | done | rfl)).symm dX2_givesUp_85
    | succ z_1 ih5 =>
      intro j5 hj5 best he5   H locs hP hS ls hl
      refine lv_iload_n hx hb dX2_givesUp_5 rfl (lv_at hl 2 rfl) ?_
      refine lv_sipush (v := 255) hx hb dX2_givesUp_6 (by decide) ?_
      refine lv_icmp_gt (tgt := 84) hx hb dX2_givesUp_9 (by decide) (fun hh_5 => absurd hh_5 (nI_nlt (a := 255) (b := j5) (by omega) (by omega))) (fun _ => ?_)
      refine lv_aload_n hx hb dX2_givesUp_12 rfl (lv_at hl 0 rfl) ?_
      refine va_get (D := D) (ci := 2) (v := .ref (h 3)) (C := RX2) (T := TX2) (N := 9) hx hb hts hinX2 hown hK hP 0 rfl rfl 1 (by decide) (hts (.fieldLink RX2 19 "HoldUnless" "book" "LHoldUnless$RuleBook;") (by decide +kernel)) (fun _ h9 => h9) rfl dX2_givesUp_13 ?_
      refine lv_iload_n hx hb dX2_givesUp_16 rfl (lv_at hl 2 rfl) ?_
      refine lv_aload_n hx hb dX2_givesUp_17 rfl (lv_at hl 0 rfl) ?_
      refine va_get (D := D) (ci := 2) (v := .int on) (C := RX2) (T := TX2) (N := 9) hx hb hts hinX2 hown hK hP 0 rfl rfl 3 (by decide) (hts (.fieldLink RX2 51 "HoldUnless" "on" "I") (by decide +kernel)) (fun _ h9 => h9) rfl dX2_givesUp_18 ?_
      have hPc := hP.sub (ws' := (wB (h 3) (h 4) (h 5) (h 6) (cA 4) (cA 5) (cA 6) (nI n) may hd fi un)) [3, 4, 5, 6] rfl
      have hDc := hD.sub (ws' := (wB (h 3) (h 4) (h 5) (h 6) (cA 4) (cA 5) (cA 6) (nI n) may hd fi un)) [3, 4, 5, 6] (by decide) rfl
      have hKc := hK.sub (tys' := (tB (h 3) (h 4) (h 5) (h 6) (cA 4) (cA 5) (cA 6))) [1, 2, 3] rfl
      refine ro_i (D := D) (va_runVN (As := [.int (nI j5), .int on]) (rest := []) ⟨hx, hb, hml, hown, hts⟩ (c_X0_brokenBy l D (h 3) (h 4) (h 5) (h 6) (cA 4) (cA 5) (cA 6) n may hd fi un (nI j5) on (by first | assumption | omega) _) ⟨(va_cnB 2 hts gX2_givesUp_X0_brokenBy_n126 rfl rfl rfl (hN.nw 15 rfl) (hts (.initialized RX0) (by decide +kernel)) (by decide +kernel) ⟨Nat.le_of_ble_eq_true rfl, Nat.le_of_ble_eq_true rfl⟩), hts (.instanceMethod yX0_brokenBy) (by decide +kernel), hts (.selects RX0 yX0_brokenBy yX0_brokenBy) (by decide +kernel)⟩ ⟨cPre.blind, va_recv hKc hPc (ci := 0) (q0 := 0) rfl rfl, cPre.mk hPc hKc hDc hN⟩ rfl rfl hl.1 rfl (lv_room (Nat.le_of_ble_eq_true rfl)) dX2_givesUp_21 ⟨Nat.zero_le _, Nat.zero_le _⟩) hS hA (fun H locs hkp0 hS => ?_)
      replace hP := hkp0 _ hP
      refine lv_istore_n (lv' := [(3, .int (s_X0_brokenBy n hd fi un (nI j5) on)), (0, .ref (h 0)), (1, .int best), (2, .int (nI j5))]) hx hb dX2_givesUp_24 rfl hl (by decide) rfl (fun ls hl => ?_)
      refine lv_iload_n hx hb dX2_givesUp_25 rfl (lv_at hl 0 rfl) ?_
      refine ro_i (D := D) (va_runS (As := [.int (s_X0_brokenBy n hd fi un (nI j5) on)]) (rest := []) ⟨hx, hb, hml, hown, hts⟩ (c_J6_bitCount_0f7a4 l D (s_X0_brokenBy n hd fi un (nI j5) on)  _) (va_cwS 1 hts gX2_givesUp_J6_bitCount_0f7a4 rfl rfl rfl (by decide +kernel) ⟨Nat.le_of_ble_eq_true rfl, Nat.le_of_ble_eq_true rfl⟩) ⟨cPre.blind, cPre.mk vP0 hKe vD0 hN⟩ rfl rfl hl.1 rfl (lv_room (Nat.le_of_ble_eq_true rfl)) dX2_givesUp_26 ⟨Nat.zero_le _, Nat.zero_le _⟩) hS hA (fun H locs hkp0 hS => ?_)
      replace hP := hkp0 _ hP
      refine lv_iconst (v := 3) hx hb dX2_givesUp_29 (by decide) ?_
      refine lv_icmp_gt (tgt := 45) hx hb dX2_givesUp_30 (by decide) (fun c_30_6 => ?_) (fun c_30_6 => ?_)
      · refine lv_iconst (v := 0) hx hb dX2_givesUp_45 (by decide) ?_
        refine lv_istore (lv' := [(4, .int 0), (3, .int (s_X0_brokenBy n hd fi un (nI j5) on)), (0, .ref (h 0)), (1, .int best), (2, .int (nI j5))]) hx hb dX2_givesUp_46 hl (by decide) rfl (fun ls hl => ?_)
        refine lv_iload hx hb dX2_givesUp_48 (lv_at hl 0 rfl) ?_
        refine lv_if_eq (tgt := 78) hx hb dX2_givesUp_50 (by decide) (fun _ => ?_) (fun hh_8 => absurd (by decide) hh_8)
        refine lv_iinc (v := nI (j5 + 1)) (lv' := [(2, .int (nI (j5 + 1))), (4, .int 0), (3, .int (s_X0_brokenBy n hd fi un (nI j5) on)), (0, .ref (h 0)), (1, .int best)]) hx hb dX2_givesUp_78 hl (k := 4) rfl (inc_nI j5) (by decide) rfl (fun ls hl => ?_)
        refine lv_goto (tgt := 5) hx hb dX2_givesUp_81 (by decide) ?_
        exact ih5 (j5 + 1) (by omega) best (itr_step he5 (by (unfold f_X2_givesUp_5; (try dsimp only); (try rw [if_pos c_30_6]); first | done | rfl)))   _ _ hP hS _ (lv_sub hl [3, 4, 0] rfl)
      · refine lv_iload_n hx hb dX2_givesUp_33 rfl (lv_at hl 0 rfl) ?_
        refine lv_iload_n hx hb dX2_givesUp_34 rfl (lv_at hl 2 rfl) ?_
        refine ro_i (D := D) (va_runS (As := [.int (s_X0_brokenBy n hd fi un (nI j5) on), .int best]) (rest := []) ⟨hx, hb, hml, hown, hts⟩ (c_X2_isBetter l D (s_X0_brokenBy n hd fi un (nI j5) on) best  _) (va_cwS 2 hts gX2_givesUp_X2_isBetter rfl rfl rfl (by decide +kernel) ⟨Nat.le_of_ble_eq_true rfl, Nat.le_of_ble_eq_true rfl⟩) ⟨cPre.blind, cPre.mk vP0 hKe vD0 hN⟩ rfl rfl hl.1 rfl (lv_room (Nat.le_of_ble_eq_true rfl)) dX2_givesUp_35 ⟨Nat.zero_le _, Nat.zero_le _⟩) hS hA (fun H locs hkp0 hS => ?_)
        replace hP := hkp0 _ hP
        refine lv_if_eq (tgt := 45) hx hb dX2_givesUp_38 (by decide) (fun c_38_9 => ?_) (fun c_38_9 => ?_)
        · refine lv_iconst (v := 0) hx hb dX2_givesUp_45 (by decide) ?_
          refine lv_istore (lv' := [(4, .int 0), (3, .int (s_X0_brokenBy n hd fi un (nI j5) on)), (0, .ref (h 0)), (1, .int best), (2, .int (nI j5))]) hx hb dX2_givesUp_46 hl (by decide) rfl (fun ls hl => ?_)
          refine lv_iload hx hb dX2_givesUp_48 (lv_at hl 0 rfl) ?_
          refine lv_if_eq (tgt := 78) hx hb dX2_givesUp_50 (by decide) (fun _ => ?_) (fun hh_11 => absurd (by decide) hh_11)
          refine lv_iinc (v := nI (j5 + 1)) (lv' := [(2, .int (nI (j5 + 1))), (4, .int 0), (3, .int (s_X0_brokenBy n hd fi un (nI j5) on)), (0, .ref (h 0)), (1, .int best)]) hx hb dX2_givesUp_78 hl (k := 4) rfl (inc_nI j5) (by decide) rfl (fun ls hl => ?_)
          refine lv_goto (tgt := 5) hx hb dX2_givesUp_81 (by decide) ?_
          exact ih5 (j5 + 1) (by omega) best (itr_step he5 (by (unfold f_X2_givesUp_5; (try dsimp only); (try rw [if_neg c_30_6]); (try rw [if_pos c_38_9]); first | done | rfl)))   _ _ hP hS _ (lv_sub hl [3, 4, 0] rfl)
        · refine lv_iconst (v := 1) hx hb dX2_givesUp_41 (by decide) ?_
          refine lv_goto (tgt := 46) hx hb dX2_givesUp_42 (by decide) ?_
          refine lv_istore (lv' := [(4, .int 1), (3, .int (s_X0_brokenBy n hd fi un (nI j5) on)), (0, .ref (h 0)), (1, .int best), (2, .int (nI j5))]) hx hb dX2_givesUp_46 hl (by decide) rfl (fun ls hl => ?_)
          refine lv_iload hx hb dX2_givesUp_48 (lv_at hl 0 rfl) ?_
          refine lv_if_eq (tgt := 78) hx hb dX2_givesUp_50 (by decide) (fun hh_13 => absurd hh_13 (by decide)) (fun _ => ?_)
          refine lv_aload_n hx hb dX2_givesUp_53 rfl (lv_at hl 2 rfl) ?_
          refine va_get (D := D) (ci := 2) (v := .ref (h 3)) (C := RX2) (T := TX2) (N := 9) hx hb hts hinX2 hown hK hP 0 rfl rfl 1 (by decide) (hts (.fieldLink RX2 19 "HoldUnless" "book" "LHoldUnless$RuleBook;") (by decide +kernel)) (fun _ h9 => h9) rfl dX2_givesUp_54 ?_
          refine lv_iload_n hx hb dX2_givesUp_57 rfl (lv_at hl 4 rfl) ?_
          refine lv_aload_n hx hb dX2_givesUp_58 rfl (lv_at hl 2 rfl) ?_
          refine va_get (D := D) (ci := 2) (v := .int on) (C := RX2) (T := TX2) (N := 9) hx hb hts hinX2 hown hK hP 0 rfl rfl 3 (by decide) (hts (.fieldLink RX2 51 "HoldUnless" "on" "I") (by decide +kernel)) (fun _ h9 => h9) rfl dX2_givesUp_59 ?_
          refine lv_iload_n hx hb dX2_givesUp_62 rfl (lv_at hl 1 rfl) ?_
          refine lv_iconst (v := (-1)) hx hb dX2_givesUp_63 (by decide) ?_
          refine lv_ixor hx hb dX2_givesUp_64 ?_
          refine lv_iand hx hb dX2_givesUp_65 ?_
          refine lv_aload_n hx hb dX2_givesUp_66 rfl (lv_at hl 2 rfl) ?_
          refine va_get (D := D) (ci := 2) (v := .int asd) (C := RX2) (T := TX2) (N := 9) hx hb hts hinX2 hown hK hP 0 rfl rfl 4 (by decide) (hts (.fieldLink RX2 54 "HoldUnless" "assumed" "I") (by decide +kernel)) (fun _ h9 => h9) rfl dX2_givesUp_67 ?_
          have hPc := hP.sub (ws' := (wB (h 3) (h 4) (h 5) (h 6) (cA 4) (cA 5) (cA 6) (nI n) may hd fi un)) [3, 4, 5, 6] rfl
          have hDc := hD.sub (ws' := (wB (h 3) (h 4) (h 5) (h 6) (cA 4) (cA 5) (cA 6) (nI n) may hd fi un)) [3, 4, 5, 6] (by decide) rfl
          have hKc := hK.sub (tys' := (tB (h 3) (h 4) (h 5) (h 6) (cA 4) (cA 5) (cA 6))) [1, 2, 3] rfl
          refine ro_i (D := D) (va_runVN (As := [.int (nI j5), .int (on &&& ((s_X0_brokenBy n hd fi un (nI j5) on) ^^^ (-1))), .int asd]) (rest := []) ⟨hx, hb, hml, hown, hts⟩ (c_X0_upholds l D (h 3) (h 4) (h 5) (h 6) (cA 4) (cA 5) (cA 6) n may hd fi un (nI j5) (on &&& ((s_X0_brokenBy n hd fi un (nI j5) on) ^^^ (-1))) asd (by first | assumption | omega) _) ⟨(va_cnB 3 hts gX2_givesUp_X0_upholds_n87 rfl rfl rfl (hN.nw 8 rfl) (hts (.initialized RX0) (by decide +kernel)) (by decide +kernel) ⟨Nat.le_of_ble_eq_true rfl, Nat.le_of_ble_eq_true rfl⟩), hts (.instanceMethod yX0_upholds) (by decide +kernel), hts (.selects RX0 yX0_upholds yX0_upholds) (by decide +kernel)⟩ ⟨cPre.blind, va_recv hKc hPc (ci := 0) (q0 := 0) rfl rfl, cPre.mk hPc hKc hDc hN⟩ rfl rfl hl.1 rfl (lv_room (Nat.le_of_ble_eq_true rfl)) dX2_givesUp_70 ⟨Nat.zero_le _, Nat.zero_le _⟩) hS hA (fun H locs hkp0 hS => ?_)
          replace hP := hkp0 _ hP
          refine lv_if_eq (tgt := 78) hx hb dX2_givesUp_73 (by decide) (fun c_73_14 => ?_) (fun c_73_14 => ?_)
          · refine lv_iinc (v := nI (j5 + 1)) (lv' := [(2, .int (nI (j5 + 1))), (4, .int 1), (3, .int (s_X0_brokenBy n hd fi un (nI j5) on)), (0, .ref (h 0)), (1, .int best)]) hx hb dX2_givesUp_78 hl (k := 4) rfl (inc_nI j5) (by decide) rfl (fun ls hl => ?_)
            refine lv_goto (tgt := 5) hx hb dX2_givesUp_81 (by decide) ?_
            exact ih5 (j5 + 1) (by omega) best (itr_step he5 (by (unfold f_X2_givesUp_5; (try dsimp only); (try rw [if_neg c_30_6]); (try rw [if_neg c_38_9]); (try rw [if_pos c_73_14]); first | done | rfl)))   _ _ hP hS _ (lv_sub hl [3, 4, 0] rfl)
          · refine lv_iload_n hx hb dX2_givesUp_76 rfl (lv_at hl 1 rfl) ?_
            refine lv_istore_n (lv' := [(1, .int (s_X0_brokenBy n hd fi un (nI j5) on)), (4, .int 1), (3, .int (s_X0_brokenBy n hd fi un (nI j5) on)), (0, .ref (h 0)), (2, .int (nI j5))]) hx hb dX2_givesUp_77 rfl hl (by decide) rfl (fun ls hl => ?_)
            refine lv_iinc (v := nI (j5 + 1)) (lv' := [(2, .int (nI (j5 + 1))), (1, .int (s_X0_brokenBy n hd fi un (nI j5) on)), (4, .int 1), (3, .int (s_X0_brokenBy n hd fi un (nI j5) on)), (0, .ref (h 0))]) hx hb dX2_givesUp_78 hl (k := 4) rfl (inc_nI j5) (by decide) rfl (fun ls hl => ?_)
            refine lv_goto (tgt := 5) hx hb dX2_givesUp_81 (by decide) ?_
            exact ih5 (j5 + 1) (by omega) (s_X0_brokenBy n hd fi un (nI j5) on) (itr_step he5 (by (unfold f_X2_givesUp_5; (try dsimp only); (try rw [if_neg c_30_6]); (try rw [if_neg c_38_9]); (try rw [if_neg c_73_14]); first | done | rfl)))   _ _ hP hS _ (lv_sub hl [4, 1, 0] rfl)
  exact lp5_1 256 0 (by omega) (-9) (itr_zero _ _).symm   _ _ hP hS _ (lv_sub hl [2, 1, 0] rfl)

def f_X2_sameSetsWith_2 (n : Nat) (may : Int32) (hd : Nat → Int32) (fi : Nat → Int32) (un : Nat → Int32) (on : Int32) (asd : Int32) (oon : Int32) (oas : Int32) (j2 : Nat) (st : Unit) : Int32 ⊕ (Unit) := (if (s_X0_upholds n may hd fi un (nI j2) on asd) = (s_X0_upholds n may hd fi un (nI j2) oon oas) then (.inr ()) else (.inl 0))
def s_X2_sameSetsWith (n : Nat) (may : Int32) (hd : Nat → Int32) (fi : Nat → Int32) (un : Nat → Int32) (on : Int32) (asd : Int32) (oon : Int32) (oas : Int32) : Int32 := (onE (itE (f_X2_sameSetsWith_2 n may hd fi un on asd oon oas) () 256) (fun st => match st with | () => 1))
set_option maxHeartbeats 4000000 in
set_option maxRecDepth 100000 in
theorem c_X2_sameSetsWith (l : Launch) (D : va_G) (h : Nat → Nat) (cA : Nat → ClassId) (n : Nat) (by_ : Nat → Int32) (ln : Int32) (pl : Int32) (tk : Int32) (tp : Int32) (may : Int32) (hd : Nat → Int32) (fi : Nat → Int32) (un : Nat → Int32) (sz2 : Int32) (may2 : Int32) (hd2 : Nat → Int32) (fi2 : Nat → Int32) (un2 : Nat → Int32) (on : Int32) (asd : Int32) (io : Nat → Int32) (ia : Nat → Int32) (kept : Int32) (tr : Int64) (oon : Int32) (oas : Int32) (hn : n ≤ 10) (sz : Nat) : Met l yX2_sameSetsWith wsX2_sameSetsWith ({ frames := 4, cells := 0, slots := 0, locals := 97 }) (va_Pc [.ref (h 0), .int oon, .int oas] (cPre D (tX h cA) (wX h cA by_ ln pl tk tp (nI n) may hd fi un sz2 may2 hd2 fi2 un2 on asd io ia kept tr) sz)) (va_Qi (fun r (_ : Unit) => r = s_X2_sameSetsWith n may hd fi un on asd oon oas) (fun _ _ => True) (fun q => sz ≤ q)) 0 0 (fun q => sz ≤ q) := by
  refine Met.ofW (cc := cX2_sameSetsWith) (maxL := 4) (ret := (some .boolean)) (by decide) rfl ?_
  intro p e s m args below meth c s₁ B hml hv
  obtain ⟨rfl, hsz, hP, hK, hD, hN⟩ := hv
  have hx := B.exec
  have hb := B.bytes
  have hr := B.returns
  have hts := atoms_spec (ws := wsX2_sameSetsWith) B.pre
  have hown : s.vm.findClass RX2 = some m.cls := findClass_of_methodNamed B.named
  have hlocks := B.notSynchronized
  have hinX2 : ∀ w ∈ wsX20, w ∈ wsX2_sameSetsWith := fun w h => List.mem_cons_of_mem _ (List.mem_append_left _ (List.mem_append_right _ h))
  subst hsz
  obtain ⟨A, hAe⟩ : ∃ A : Nat → Prop, A = (fun q : Nat => s.heap.size ≤ q) := ⟨_, rfl⟩
  have hA : ∀ q : Nat, s.heap.size ≤ q → A q := fun q h => by rw [hAe]; exact h
  have hS : va_S A s.heap s.heap [] := va_S.rf
  subst hAe
  have hl := lv_entry ([.ref (h 0), .int oon, .int oas]) (n := 4) (Nat.le_of_ble_eq_true rfl)
  rw [lg_entry_eq]
  generalize (lg_sl ([.ref (h 0), .int oon, .int oas]) ++ List.replicate (4 - (lg_sl ([.ref (h 0), .int oon, .int oas])).length) Slot.unset).toArray = ls at hl ⊢
  replace hl : lv_has ls 4 [(0, .ref (h 0)), (1, .int oon), (2, .int oas)] := hl
  have hKe := hK.sub (tys' := []) [] rfl
  refine lv_iconst (v := 0) hx hb dX2_sameSetsWith_0 (by decide) ?_
  refine lv_istore_n (lv' := [(3, .int 0), (0, .ref (h 0)), (1, .int oon), (2, .int oas)]) hx hb dX2_sameSetsWith_1 rfl hl (by decide) rfl (fun ls hl => ?_)
  have lp2_1 : ∀ (z_1 j2 : Nat), j2 + z_1 = 256 → ∀ (_ : Unit), itE (f_X2_sameSetsWith_2 n may hd fi un on asd oon oas) () j2 = .inr () → ∀  (H : Heap) (locs : List Loc), va_P D vwCl (wX h cA by_ ln pl tk tp (nI n) may hd fi un sz2 may2 hd2 fi2 un2 on asd io ia kept tr) H → va_S (fun q : Nat => s.heap.size ≤ q) s.heap H locs → ∀ ls : Array Slot, lv_has ls 4 [(0, .ref (h 0)), (1, .int oon), (2, .int oas), (3, .int (nI j2))] → W p l e (headSpec wsX2_sameSetsWith ({ frames := 4, cells := 0, slots := 0, locals := 97 })).room s m ([.ref (h 0), .int oon, .int oas] : List Value).toArray below meth c H locs 0 0 (MQ below (va_Qi (fun r (_ : Unit) => r = s_X2_sameSetsWith n may hd fi un on asd oon oas) (fun _ _ => True) (fun q => s.heap.size ≤ q)) ([.ref (h 0), .int oon, .int oas] : List Value).toArray s 0 0 (fun q => s.heap.size ≤ q)) (F0 m 2 ls []) := by
    intro z_1
    induction z_1 with
    | zero =>
      intro j2 hj2 _ he2   H locs hP hS ls hl
      obtain rfl : 256 = j2 := by omega
      refine lv_iload_n hx hb dX2_sameSetsWith_2 rfl (lv_at hl 3 rfl) ?_
      refine lv_sipush (v := 255) hx hb dX2_sameSetsWith_3 (by decide) ?_
      refine lv_icmp_gt (tgt := 46) hx hb dX2_sameSetsWith_6 (by decide) (fun _ => ?_) (fun hh_3 => absurd (nI_lt (a := 255) (b := 256) (by omega) (by omega)) hh_3)
      refine lv_iconst (v := 1) hx hb dX2_sameSetsWith_46 (by decide) ?_
      exact ro_zret hx hb hr hS hlocks (show s_X2_sameSetsWith n may hd fi un on asd oon oas = 1 from by (unfold s_X2_sameSetsWith; (try dsimp only); (try rw [he2]); (try dsimp only [onE]); first | done | rfl)).symm (by decide +kernel) dX2_sameSetsWith_47
    | succ z_1 ih2 =>
      intro j2 hj2 _ he2   H locs hP hS ls hl
      refine lv_iload_n hx hb dX2_sameSetsWith_2 rfl (lv_at hl 3 rfl) ?_
      refine lv_sipush (v := 255) hx hb dX2_sameSetsWith_3 (by decide) ?_
      refine lv_icmp_gt (tgt := 46) hx hb dX2_sameSetsWith_6 (by decide) (fun hh_5 => absurd hh_5 (nI_nlt (a := 255) (b := j2) (by omega) (by omega))) (fun _ => ?_)
      refine lv_aload_n hx hb dX2_sameSetsWith_9 rfl (lv_at hl 0 rfl) ?_
      refine va_get (D := D) (ci := 2) (v := .ref (h 3)) (C := RX2) (T := TX2) (N := 9) hx hb hts hinX2 hown hK hP 0 rfl rfl 1 (by decide) (hts (.fieldLink RX2 19 "HoldUnless" "book" "LHoldUnless$RuleBook;") (by decide +kernel)) (fun _ h9 => h9) rfl dX2_sameSetsWith_10 ?_
      refine lv_iload_n hx hb dX2_sameSetsWith_13 rfl (lv_at hl 3 rfl) ?_
      refine lv_aload_n hx hb dX2_sameSetsWith_14 rfl (lv_at hl 0 rfl) ?_
      refine va_get (D := D) (ci := 2) (v := .int on) (C := RX2) (T := TX2) (N := 9) hx hb hts hinX2 hown hK hP 0 rfl rfl 3 (by decide) (hts (.fieldLink RX2 51 "HoldUnless" "on" "I") (by decide +kernel)) (fun _ h9 => h9) rfl dX2_sameSetsWith_15 ?_
      refine lv_aload_n hx hb dX2_sameSetsWith_18 rfl (lv_at hl 0 rfl) ?_
      refine va_get (D := D) (ci := 2) (v := .int asd) (C := RX2) (T := TX2) (N := 9) hx hb hts hinX2 hown hK hP 0 rfl rfl 4 (by decide) (hts (.fieldLink RX2 54 "HoldUnless" "assumed" "I") (by decide +kernel)) (fun _ h9 => h9) rfl dX2_sameSetsWith_19 ?_
      have hPc := hP.sub (ws' := (wB (h 3) (h 4) (h 5) (h 6) (cA 4) (cA 5) (cA 6) (nI n) may hd fi un)) [3, 4, 5, 6] rfl
      have hDc := hD.sub (ws' := (wB (h 3) (h 4) (h 5) (h 6) (cA 4) (cA 5) (cA 6) (nI n) may hd fi un)) [3, 4, 5, 6] (by decide) rfl
      have hKc := hK.sub (tys' := (tB (h 3) (h 4) (h 5) (h 6) (cA 4) (cA 5) (cA 6))) [1, 2, 3] rfl
      refine ro_i (D := D) (va_runVN (As := [.int (nI j2), .int on, .int asd]) (rest := []) ⟨hx, hb, hml, hown, hts⟩ (c_X0_upholds l D (h 3) (h 4) (h 5) (h 6) (cA 4) (cA 5) (cA 6) n may hd fi un (nI j2) on asd (by first | assumption | omega) _) ⟨(va_cnB 3 hts gX2_sameSetsWith_X0_upholds_n87 rfl rfl rfl (hN.nw 8 rfl) (hts (.initialized RX0) (by decide +kernel)) (by decide +kernel) ⟨Nat.le_of_ble_eq_true rfl, Nat.le_of_ble_eq_true rfl⟩), hts (.instanceMethod yX0_upholds) (by decide +kernel), hts (.selects RX0 yX0_upholds yX0_upholds) (by decide +kernel)⟩ ⟨cPre.blind, va_recv hKc hPc (ci := 0) (q0 := 0) rfl rfl, cPre.mk hPc hKc hDc hN⟩ rfl rfl hl.1 rfl (lv_room (Nat.le_of_ble_eq_true rfl)) dX2_sameSetsWith_22 ⟨Nat.zero_le _, Nat.zero_le _⟩) hS hA (fun H locs hkp0 hS => ?_)
      replace hP := hkp0 _ hP
      refine lv_aload_n hx hb dX2_sameSetsWith_25 rfl (lv_at hl 0 rfl) ?_
      refine va_get (D := D) (ci := 2) (v := .ref (h 3)) (C := RX2) (T := TX2) (N := 9) hx hb hts hinX2 hown hK hP 0 rfl rfl 1 (by decide) (hts (.fieldLink RX2 19 "HoldUnless" "book" "LHoldUnless$RuleBook;") (by decide +kernel)) (fun _ h9 => h9) rfl dX2_sameSetsWith_26 ?_
      refine lv_iload_n hx hb dX2_sameSetsWith_29 rfl (lv_at hl 3 rfl) ?_
      refine lv_iload_n hx hb dX2_sameSetsWith_30 rfl (lv_at hl 1 rfl) ?_
      refine lv_iload_n hx hb dX2_sameSetsWith_31 rfl (lv_at hl 2 rfl) ?_
      have hPc := hP.sub (ws' := (wB (h 3) (h 4) (h 5) (h 6) (cA 4) (cA 5) (cA 6) (nI n) may hd fi un)) [3, 4, 5, 6] rfl
      have hDc := hD.sub (ws' := (wB (h 3) (h 4) (h 5) (h 6) (cA 4) (cA 5) (cA 6) (nI n) may hd fi un)) [3, 4, 5, 6] (by decide) rfl
      have hKc := hK.sub (tys' := (tB (h 3) (h 4) (h 5) (h 6) (cA 4) (cA 5) (cA 6))) [1, 2, 3] rfl
      refine ro_i (D := D) (va_runVN (As := [.int (nI j2), .int oon, .int oas]) (rest := [.int (s_X0_upholds n may hd fi un (nI j2) on asd)]) ⟨hx, hb, hml, hown, hts⟩ (c_X0_upholds l D (h 3) (h 4) (h 5) (h 6) (cA 4) (cA 5) (cA 6) n may hd fi un (nI j2) oon oas (by first | assumption | omega) _) ⟨(va_cnB 3 hts gX2_sameSetsWith_X0_upholds_n87 rfl rfl rfl (hN.nw 8 rfl) (hts (.initialized RX0) (by decide +kernel)) (by decide +kernel) ⟨Nat.le_of_ble_eq_true rfl, Nat.le_of_ble_eq_true rfl⟩), hts (.instanceMethod yX0_upholds) (by decide +kernel), hts (.selects RX0 yX0_upholds yX0_upholds) (by decide +kernel)⟩ ⟨cPre.blind, va_recv hKc hPc (ci := 0) (q0 := 0) rfl rfl, cPre.mk hPc hKc hDc hN⟩ rfl rfl hl.1 rfl (lv_room (Nat.le_of_ble_eq_true rfl)) dX2_sameSetsWith_32 ⟨Nat.zero_le _, Nat.zero_le _⟩) hS hA (fun H locs hkp0 hS => ?_)
      replace hP := hkp0 _ hP
      refine lv_icmp_eq (tgt := 40) hx hb dX2_sameSetsWith_35 (by decide) (fun c_35_6 => ?_) (fun c_35_6 => ?_)
      · refine lv_iinc (v := nI (j2 + 1)) (lv' := [(3, .int (nI (j2 + 1))), (0, .ref (h 0)), (1, .int oon), (2, .int oas)]) hx hb dX2_sameSetsWith_40 hl (k := 3) rfl (inc_nI j2) (by decide) rfl (fun ls hl => ?_)
        refine lv_goto (tgt := 2) hx hb dX2_sameSetsWith_43 (by decide) ?_
        exact ih2 (j2 + 1) (by omega) () (itE_succ he2 (by (unfold f_X2_sameSetsWith_2; (try dsimp only); (try rw [if_pos c_35_6]); first | done | rfl)))   _ _ hP hS _ (lv_sub hl [1, 2, 3, 0] rfl)
      · refine lv_iconst (v := 0) hx hb dX2_sameSetsWith_38 (by decide) ?_
        have hs_7 : itE (f_X2_sameSetsWith_2 n may hd fi un on asd oon oas) () (j2 + 1) = (.inl 0) := itE_succ he2 (by (unfold f_X2_sameSetsWith_2; (try dsimp only); (try rw [if_neg c_35_6]); first | done | rfl))
        have hn_8 := itE_stop hs_7 256 (by omega)
        exact ro_zret hx hb hr hS hlocks (show s_X2_sameSetsWith n may hd fi un on asd oon oas = 0 from by (unfold s_X2_sameSetsWith; (try dsimp only); (try rw [hn_8]); (try dsimp only [onE]); first | done | rfl)).symm (by decide +kernel) dX2_sameSetsWith_39
  exact lp2_1 256 0 (by omega) () (itE_zero _ _)   _ _ hP hS _ (lv_sub hl [1, 2, 3, 0] rfl)

def s_X2_idle (n : Nat) (may : Int32) (hd : Nat → Int32) (fi : Nat → Int32) (un : Nat → Int32) (on : Int32) (asd : Int32) (k : Int32) : Int32 := (if (s_X2_isRule n k) = 0 then (-1) else (if (s_X2_bitOf on k) = 0 then (-2) else (if (s_X2_sameSetsWith n may hd fi un on asd (s_X2_withBit on k 0) asd) = 0 then 0 else 1)))
set_option maxHeartbeats 4000000 in
set_option maxRecDepth 100000 in
theorem c_X2_idle (l : Launch) (D : va_G) (h : Nat → Nat) (cA : Nat → ClassId) (n : Nat) (by_ : Nat → Int32) (ln : Int32) (pl : Int32) (tk : Int32) (tp : Int32) (may : Int32) (hd : Nat → Int32) (fi : Nat → Int32) (un : Nat → Int32) (sz2 : Int32) (may2 : Int32) (hd2 : Nat → Int32) (fi2 : Nat → Int32) (un2 : Nat → Int32) (on : Int32) (asd : Int32) (io : Nat → Int32) (ia : Nat → Int32) (kept : Int32) (tr : Int64) (k : Int32) (hn : n ≤ 10) (sz : Nat) : Met l yX2_idle wsX2_idle ({ frames := 5, cells := 0, slots := 0, locals := 120 }) (va_Pc [.ref (h 0), .int k] (cPre D (tX h cA) (wX h cA by_ ln pl tk tp (nI n) may hd fi un sz2 may2 hd2 fi2 un2 on asd io ia kept tr) sz)) (va_Qi (fun r (_ : Unit) => r = s_X2_idle n may hd fi un on asd k) (fun _ _ => True) (fun q => sz ≤ q)) 0 0 (fun q => sz ≤ q) := by
  refine Met.ofW (cc := cX2_idle) (maxL := 2) (ret := (some .int)) (by decide) rfl ?_
  intro p e s m args below meth c s₁ B hml hv
  obtain ⟨rfl, hsz, hP, hK, hD, hN⟩ := hv
  have hx := B.exec
  have hb := B.bytes
  have hr := B.returns
  have hts := atoms_spec (ws := wsX2_idle) B.pre
  have hown : s.vm.findClass RX2 = some m.cls := findClass_of_methodNamed B.named
  have hlocks := B.notSynchronized
  have hinX2 : ∀ w ∈ wsX20, w ∈ wsX2_idle := fun w h => List.mem_cons_of_mem _ (List.mem_append_left _ (List.mem_append_right _ h))
  subst hsz
  obtain ⟨A, hAe⟩ : ∃ A : Nat → Prop, A = (fun q : Nat => s.heap.size ≤ q) := ⟨_, rfl⟩
  have hA : ∀ q : Nat, s.heap.size ≤ q → A q := fun q h => by rw [hAe]; exact h
  have hS : va_S A s.heap s.heap [] := va_S.rf
  subst hAe
  have hl := lv_entry ([.ref (h 0), .int k]) (n := 2) (Nat.le_of_ble_eq_true rfl)
  rw [lg_entry_eq]
  generalize (lg_sl ([.ref (h 0), .int k]) ++ List.replicate (2 - (lg_sl ([.ref (h 0), .int k])).length) Slot.unset).toArray = ls at hl ⊢
  replace hl : lv_has ls 2 [(0, .ref (h 0)), (1, .int k)] := hl
  have hKe := hK.sub (tys' := []) [] rfl
  refine lv_aload_n hx hb dX2_idle_0 rfl (lv_at hl 0 rfl) ?_
  refine lv_iload_n hx hb dX2_idle_1 rfl (lv_at hl 1 rfl) ?_
  refine ro_i (D := D) (va_runV (As := [.int k]) (rest := []) ⟨hx, hb, hml, hown, hts⟩ (c_X2_isRule l D h cA n by_ ln pl tk tp may hd fi un sz2 may2 hd2 fi2 un2 on asd io ia kept tr k (by first | assumption | omega) _) (cwV 1 hts gX2_idle_X2_isRule rfl rfl rfl (by decide +kernel) ⟨Nat.le_of_ble_eq_true rfl, Nat.le_of_ble_eq_true rfl⟩) ⟨cPre.blind, va_recv hK hP (ci := 2) (q0 := 0) rfl rfl, cPre.mk hP hK hD hN⟩ rfl rfl hl.1 rfl (lv_room (Nat.le_of_ble_eq_true rfl)) dX2_idle_2 ⟨Nat.zero_le _, Nat.zero_le _⟩) hS hA (fun H locs hkp0 hS => ?_)
  replace hP := hkp0 _ hP
  refine lv_if_ne (tgt := 10) hx hb dX2_idle_5 (by decide) (fun c_5_1 => ?_) (fun c_5_1 => ?_)
  · refine lv_aload_n hx hb dX2_idle_10 rfl (lv_at hl 0 rfl) ?_
    refine va_get (D := D) (ci := 2) (v := .int on) (C := RX2) (T := TX2) (N := 9) hx hb hts hinX2 hown hK hP 0 rfl rfl 3 (by decide) (hts (.fieldLink RX2 51 "HoldUnless" "on" "I") (by decide +kernel)) (fun _ h9 => h9) rfl dX2_idle_11 ?_
    refine lv_iload_n hx hb dX2_idle_14 rfl (lv_at hl 1 rfl) ?_
    refine ro_i (D := D) (va_runS (As := [.int on, .int k]) (rest := []) ⟨hx, hb, hml, hown, hts⟩ (c_X2_bitOf l D on k  _) (va_cwS 2 hts gX2_idle_X2_bitOf rfl rfl rfl (by decide +kernel) ⟨Nat.le_of_ble_eq_true rfl, Nat.le_of_ble_eq_true rfl⟩) ⟨cPre.blind, cPre.mk vP0 hKe vD0 hN⟩ rfl rfl hl.1 rfl (lv_room (Nat.le_of_ble_eq_true rfl)) dX2_idle_15 ⟨Nat.zero_le _, Nat.zero_le _⟩) hS hA (fun H locs hkp0 hS => ?_)
    replace hP := hkp0 _ hP
    refine lv_if_ne (tgt := 24) hx hb dX2_idle_18 (by decide) (fun c_18_2 => ?_) (fun c_18_2 => ?_)
    · refine lv_aload_n hx hb dX2_idle_24 rfl (lv_at hl 0 rfl) ?_
      refine lv_aload_n hx hb dX2_idle_25 rfl (lv_at hl 0 rfl) ?_
      refine va_get (D := D) (ci := 2) (v := .int on) (C := RX2) (T := TX2) (N := 9) hx hb hts hinX2 hown hK hP 0 rfl rfl 3 (by decide) (hts (.fieldLink RX2 51 "HoldUnless" "on" "I") (by decide +kernel)) (fun _ h9 => h9) rfl dX2_idle_26 ?_
      refine lv_iload_n hx hb dX2_idle_29 rfl (lv_at hl 1 rfl) ?_
      refine lv_iconst (v := 0) hx hb dX2_idle_30 (by decide) ?_
      refine ro_i (D := D) (va_runS (As := [.int on, .int k, .int 0]) (rest := [.ref (h 0)]) ⟨hx, hb, hml, hown, hts⟩ (c_X2_withBit l D on k 0  _) (va_cwS 3 hts gX2_idle_X2_withBit rfl rfl rfl (by decide +kernel) ⟨Nat.le_of_ble_eq_true rfl, Nat.le_of_ble_eq_true rfl⟩) ⟨cPre.blind, cPre.mk vP0 hKe vD0 hN⟩ rfl rfl hl.1 rfl (lv_room (Nat.le_of_ble_eq_true rfl)) dX2_idle_31 ⟨Nat.zero_le _, Nat.zero_le _⟩) hS hA (fun H locs hkp0 hS => ?_)
      replace hP := hkp0 _ hP
      refine lv_aload_n hx hb dX2_idle_34 rfl (lv_at hl 0 rfl) ?_
      refine va_get (D := D) (ci := 2) (v := .int asd) (C := RX2) (T := TX2) (N := 9) hx hb hts hinX2 hown hK hP 0 rfl rfl 4 (by decide) (hts (.fieldLink RX2 54 "HoldUnless" "assumed" "I") (by decide +kernel)) (fun _ h9 => h9) rfl dX2_idle_35 ?_
      refine ro_i (D := D) (va_runV (As := [.int (s_X2_withBit on k 0), .int asd]) (rest := []) ⟨hx, hb, hml, hown, hts⟩ (c_X2_sameSetsWith l D h cA n by_ ln pl tk tp may hd fi un sz2 may2 hd2 fi2 un2 on asd io ia kept tr (s_X2_withBit on k 0) asd (by first | assumption | omega) _) (cwV 2 hts gX2_idle_X2_sameSetsWith rfl rfl rfl (by decide +kernel) ⟨Nat.le_of_ble_eq_true rfl, Nat.le_of_ble_eq_true rfl⟩) ⟨cPre.blind, va_recv hK hP (ci := 2) (q0 := 0) rfl rfl, cPre.mk hP hK hD hN⟩ rfl rfl hl.1 rfl (lv_room (Nat.le_of_ble_eq_true rfl)) dX2_idle_38 ⟨Nat.zero_le _, Nat.zero_le _⟩) hS hA (fun H locs hkp0 hS => ?_)
      replace hP := hkp0 _ hP
      refine lv_if_eq (tgt := 48) hx hb dX2_idle_41 (by decide) (fun c_41_3 => ?_) (fun c_41_3 => ?_)
      · refine lv_iconst (v := 0) hx hb dX2_idle_48 (by decide) ?_
        exact ro_iret hx hb hr hS hlocks (show s_X2_idle n may hd fi un on asd k = 0 from by (unfold s_X2_idle; (try dsimp only); (try rw [if_neg c_5_1]); (try rw [if_neg c_18_2]); (try rw [if_pos c_41_3]); first | done | rfl)).symm dX2_idle_49
      · refine lv_iconst (v := 1) hx hb dX2_idle_44 (by decide) ?_
        refine lv_goto (tgt := 49) hx hb dX2_idle_45 (by decide) ?_
        exact ro_iret hx hb hr hS hlocks (show s_X2_idle n may hd fi un on asd k = 1 from by (unfold s_X2_idle; (try dsimp only); (try rw [if_neg c_5_1]); (try rw [if_neg c_18_2]); (try rw [if_neg c_41_3]); first | done | rfl)).symm dX2_idle_49
    · refine lv_bipush (v := (-2)) hx hb dX2_idle_21 (by decide) ?_
      exact ro_iret hx hb hr hS hlocks (show s_X2_idle n may hd fi un on asd k = (-2) from by (unfold s_X2_idle; (try dsimp only); (try rw [if_neg c_5_1]); (try rw [if_pos c_18_2]); first | done | rfl)).symm dX2_idle_23
  · refine lv_iconst (v := (-1)) hx hb dX2_idle_8 (by decide) ?_
    exact ro_iret hx hb hr hS hlocks (show s_X2_idle n may hd fi un on asd k = (-1) from by (unfold s_X2_idle; (try dsimp only); (try rw [if_pos c_5_1]); first | done | rfl)).symm dX2_idle_9

def s_X2_alike (n : Nat) (may : Int32) (hd : Nat → Int32) (fi : Nat → Int32) (un : Nat → Int32) (on : Int32) (asd : Int32) (io : Nat → Int32) (ia : Nat → Int32) (kept : Int32) (image : Int32) : Int32 := (if (s_X2_isImage image) = 0 then (-1) else (if (s_X2_bitOf kept image) = 0 then (-2) else (if (s_X2_sameSetsWith n may hd fi un on asd (io image.toNatClampNeg) (ia image.toNatClampNeg)) = 0 then 0 else 1)))
set_option maxHeartbeats 4000000 in
set_option maxRecDepth 100000 in
theorem c_X2_alike (l : Launch) (D : va_G) (h : Nat → Nat) (cA : Nat → ClassId) (n : Nat) (by_ : Nat → Int32) (ln : Int32) (pl : Int32) (tk : Int32) (tp : Int32) (may : Int32) (hd : Nat → Int32) (fi : Nat → Int32) (un : Nat → Int32) (sz2 : Int32) (may2 : Int32) (hd2 : Nat → Int32) (fi2 : Nat → Int32) (un2 : Nat → Int32) (on : Int32) (asd : Int32) (io : Nat → Int32) (ia : Nat → Int32) (kept : Int32) (tr : Int64) (image : Int32) (hn : n ≤ 10) (sz : Nat) : Met l yX2_alike wsX2_alike ({ frames := 5, cells := 0, slots := 0, locals := 120 }) (va_Pc [.ref (h 0), .int image] (cPre D (tX h cA) (wX h cA by_ ln pl tk tp (nI n) may hd fi un sz2 may2 hd2 fi2 un2 on asd io ia kept tr) sz)) (va_Qi (fun r (_ : Unit) => r = s_X2_alike n may hd fi un on asd io ia kept image) (fun _ _ => True) (fun q => sz ≤ q)) 0 0 (fun q => sz ≤ q) := by
  refine Met.ofW (cc := cX2_alike) (maxL := 2) (ret := (some .int)) (by decide) rfl ?_
  intro p e s m args below meth c s₁ B hml hv
  obtain ⟨rfl, hsz, hP, hK, hD, hN⟩ := hv
  have hx := B.exec
  have hb := B.bytes
  have hr := B.returns
  have hts := atoms_spec (ws := wsX2_alike) B.pre
  have hown : s.vm.findClass RX2 = some m.cls := findClass_of_methodNamed B.named
  have hlocks := B.notSynchronized
  have hinX2 : ∀ w ∈ wsX20, w ∈ wsX2_alike := fun w h => List.mem_cons_of_mem _ (List.mem_append_left _ (List.mem_append_right _ h))
  subst hsz
  obtain ⟨A, hAe⟩ : ∃ A : Nat → Prop, A = (fun q : Nat => s.heap.size ≤ q) := ⟨_, rfl⟩
  have hA : ∀ q : Nat, s.heap.size ≤ q → A q := fun q h => by rw [hAe]; exact h
  have hS : va_S A s.heap s.heap [] := va_S.rf
  subst hAe
  have hl := lv_entry ([.ref (h 0), .int image]) (n := 2) (Nat.le_of_ble_eq_true rfl)
  rw [lg_entry_eq]
  generalize (lg_sl ([.ref (h 0), .int image]) ++ List.replicate (2 - (lg_sl ([.ref (h 0), .int image])).length) Slot.unset).toArray = ls at hl ⊢
  replace hl : lv_has ls 2 [(0, .ref (h 0)), (1, .int image)] := hl
  have hKe := hK.sub (tys' := []) [] rfl
  refine lv_iload_n hx hb dX2_alike_0 rfl (lv_at hl 1 rfl) ?_
  refine ro_i (D := D) (va_runS (As := [.int image]) (rest := []) ⟨hx, hb, hml, hown, hts⟩ (c_X2_isImage l D image  _) (va_cwS 1 hts gX2_alike_X2_isImage rfl rfl rfl (by decide +kernel) ⟨Nat.le_of_ble_eq_true rfl, Nat.le_of_ble_eq_true rfl⟩) ⟨cPre.blind, cPre.mk vP0 hKe vD0 hN⟩ rfl rfl hl.1 rfl (lv_room (Nat.le_of_ble_eq_true rfl)) dX2_alike_1 ⟨Nat.zero_le _, Nat.zero_le _⟩) hS hA (fun H locs hkp0 hS => ?_)
  replace hP := hkp0 _ hP
  refine lv_if_ne (tgt := 9) hx hb dX2_alike_4 (by decide) (fun c_4_1 => ?_) (fun c_4_1 => ?_)
  · refine lv_aload_n hx hb dX2_alike_9 rfl (lv_at hl 0 rfl) ?_
    refine va_get (D := D) (ci := 2) (v := .int kept) (C := RX2) (T := TX2) (N := 9) hx hb hts hinX2 hown hK hP 0 rfl rfl 7 (by decide) (hts (.fieldLink RX2 57 "HoldUnless" "imagesKept" "I") (by decide +kernel)) (fun _ h9 => h9) rfl dX2_alike_10 ?_
    refine lv_iload_n hx hb dX2_alike_13 rfl (lv_at hl 1 rfl) ?_
    refine ro_i (D := D) (va_runS (As := [.int kept, .int image]) (rest := []) ⟨hx, hb, hml, hown, hts⟩ (c_X2_bitOf l D kept image  _) (va_cwS 2 hts gX2_alike_X2_bitOf rfl rfl rfl (by decide +kernel) ⟨Nat.le_of_ble_eq_true rfl, Nat.le_of_ble_eq_true rfl⟩) ⟨cPre.blind, cPre.mk vP0 hKe vD0 hN⟩ rfl rfl hl.1 rfl (lv_room (Nat.le_of_ble_eq_true rfl)) dX2_alike_14 ⟨Nat.zero_le _, Nat.zero_le _⟩) hS hA (fun H locs hkp0 hS => ?_)
    replace hP := hkp0 _ hP
    refine lv_if_ne (tgt := 23) hx hb dX2_alike_17 (by decide) (fun c_17_2 => ?_) (fun c_17_2 => ?_)
    · refine lv_aload_n hx hb dX2_alike_23 rfl (lv_at hl 0 rfl) ?_
      refine lv_aload_n hx hb dX2_alike_24 rfl (lv_at hl 0 rfl) ?_
      refine va_get (D := D) (ci := 2) (v := .ref (h 11)) (C := RX2) (T := TX2) (N := 9) hx hb hts hinX2 hown hK hP 0 rfl rfl 5 (by decide) (hts (.fieldLink RX2 26 "HoldUnless" "imageOn" "[I") (by decide +kernel)) (fun _ h9 => h9) rfl dX2_alike_25 ?_
      refine lv_iload_n hx hb dX2_alike_28 rfl (lv_at hl 1 rfl) ?_
      refine va_iald hx hb hK hP 11 7 rfl rfl ((vp_image c_4_1)) dX2_alike_29 ?_
      refine lv_aload_n hx hb dX2_alike_30 rfl (lv_at hl 0 rfl) ?_
      refine va_get (D := D) (ci := 2) (v := .ref (h 12)) (C := RX2) (T := TX2) (N := 9) hx hb hts hinX2 hown hK hP 0 rfl rfl 6 (by decide) (hts (.fieldLink RX2 30 "HoldUnless" "imageAssumed" "[I") (by decide +kernel)) (fun _ h9 => h9) rfl dX2_alike_31 ?_
      refine lv_iload_n hx hb dX2_alike_34 rfl (lv_at hl 1 rfl) ?_
      refine va_iald hx hb hK hP 12 8 rfl rfl ((vp_image c_4_1)) dX2_alike_35 ?_
      refine ro_i (D := D) (va_runV (As := [.int (io image.toNatClampNeg), .int (ia image.toNatClampNeg)]) (rest := []) ⟨hx, hb, hml, hown, hts⟩ (c_X2_sameSetsWith l D h cA n by_ ln pl tk tp may hd fi un sz2 may2 hd2 fi2 un2 on asd io ia kept tr (io image.toNatClampNeg) (ia image.toNatClampNeg) (by first | assumption | omega) _) (cwV 2 hts gX2_alike_X2_sameSetsWith rfl rfl rfl (by decide +kernel) ⟨Nat.le_of_ble_eq_true rfl, Nat.le_of_ble_eq_true rfl⟩) ⟨cPre.blind, va_recv hK hP (ci := 2) (q0 := 0) rfl rfl, cPre.mk hP hK hD hN⟩ rfl rfl hl.1 rfl (lv_room (Nat.le_of_ble_eq_true rfl)) dX2_alike_36 ⟨Nat.zero_le _, Nat.zero_le _⟩) hS hA (fun H locs hkp0 hS => ?_)
      replace hP := hkp0 _ hP
      refine lv_if_eq (tgt := 46) hx hb dX2_alike_39 (by decide) (fun c_39_3 => ?_) (fun c_39_3 => ?_)
      · refine lv_iconst (v := 0) hx hb dX2_alike_46 (by decide) ?_
        exact ro_iret hx hb hr hS hlocks (show s_X2_alike n may hd fi un on asd io ia kept image = 0 from by (unfold s_X2_alike; (try dsimp only); (try rw [if_neg c_4_1]); (try rw [if_neg c_17_2]); (try rw [if_pos c_39_3]); first | done | rfl)).symm dX2_alike_47
      · refine lv_iconst (v := 1) hx hb dX2_alike_42 (by decide) ?_
        refine lv_goto (tgt := 47) hx hb dX2_alike_43 (by decide) ?_
        exact ro_iret hx hb hr hS hlocks (show s_X2_alike n may hd fi un on asd io ia kept image = 1 from by (unfold s_X2_alike; (try dsimp only); (try rw [if_neg c_4_1]); (try rw [if_neg c_17_2]); (try rw [if_neg c_39_3]); first | done | rfl)).symm dX2_alike_47
    · refine lv_bipush (v := (-2)) hx hb dX2_alike_20 (by decide) ?_
      exact ro_iret hx hb hr hS hlocks (show s_X2_alike n may hd fi un on asd io ia kept image = (-2) from by (unfold s_X2_alike; (try dsimp only); (try rw [if_neg c_4_1]); (try rw [if_pos c_17_2]); first | done | rfl)).symm dX2_alike_22
  · refine lv_iconst (v := (-1)) hx hb dX2_alike_7 (by decide) ?_
    exact ro_iret hx hb hr hS hlocks (show s_X2_alike n may hd fi un on asd io ia kept image = (-1) from by (unfold s_X2_alike; (try dsimp only); (try rw [if_pos c_4_1]); first | done | rfl)).symm dX2_alike_8

def s_X2_count (n : Nat) (may : Int32) (on : Int32) (asd : Int32) (ln : Int32) (what : Int32) : Int32 := (if what = 0 then (nI n) else (if what = 1 then (s_J6_bitCount_0f7a4 on) else (if what = 2 then may else (if what = 3 then asd else (if what = 4 then ln else (-1))))))
set_option maxHeartbeats 4000000 in
set_option maxRecDepth 100000 in
theorem c_X2_count (l : Launch) (D : va_G) (h : Nat → Nat) (cA : Nat → ClassId) (n : Nat) (by_ : Nat → Int32) (ln : Int32) (pl : Int32) (tk : Int32) (tp : Int32) (may : Int32) (hd : Nat → Int32) (fi : Nat → Int32) (un : Nat → Int32) (sz2 : Int32) (may2 : Int32) (hd2 : Nat → Int32) (fi2 : Nat → Int32) (un2 : Nat → Int32) (on : Int32) (asd : Int32) (io : Nat → Int32) (ia : Nat → Int32) (kept : Int32) (tr : Int64) (what : Int32) (hn : n ≤ 10) (sz : Nat) : Met l yX2_count wsX2_count ({ frames := 1, cells := 0, slots := 0, locals := 20 }) (va_Pc [.ref (h 0), .int what] (cPre D (tX h cA) (wX h cA by_ ln pl tk tp (nI n) may hd fi un sz2 may2 hd2 fi2 un2 on asd io ia kept tr) sz)) (va_Qi (fun r (_ : Unit) => r = s_X2_count n may on asd ln what) (fun _ _ => True) (fun q => sz ≤ q)) 0 0 (fun q => sz ≤ q) := by
  refine Met.ofW (cc := cX2_count) (maxL := 2) (ret := (some .int)) (by decide) rfl ?_
  intro p e s m args below meth c s₁ B hml hv
  obtain ⟨rfl, hsz, hP, hK, hD, hN⟩ := hv
  have hx := B.exec
  have hb := B.bytes
  have hr := B.returns
  have hts := atoms_spec (ws := wsX2_count) B.pre
  have hown : s.vm.findClass RX2 = some m.cls := findClass_of_methodNamed B.named
  have hlocks := B.notSynchronized
  have hinX0 : ∀ w ∈ wsX00, w ∈ wsX2_count := fun w h => List.mem_cons_of_mem _ (List.mem_append_left _ (List.mem_append_right _ h))
  have hinX1 : ∀ w ∈ wsX10, w ∈ wsX2_count := fun w h => List.mem_cons_of_mem _ (List.mem_append_right _ h)
  have hinX2 : ∀ w ∈ wsX20, w ∈ wsX2_count := fun w h => List.mem_cons_of_mem _ (List.mem_append_left _ (List.mem_append_left _ (List.mem_append_right _ h)))
  subst hsz
  obtain ⟨A, hAe⟩ : ∃ A : Nat → Prop, A = (fun q : Nat => s.heap.size ≤ q) := ⟨_, rfl⟩
  have hA : ∀ q : Nat, s.heap.size ≤ q → A q := fun q h => by rw [hAe]; exact h
  have hS : va_S A s.heap s.heap [] := va_S.rf
  subst hAe
  have hl := lv_entry ([.ref (h 0), .int what]) (n := 2) (Nat.le_of_ble_eq_true rfl)
  rw [lg_entry_eq]
  generalize (lg_sl ([.ref (h 0), .int what]) ++ List.replicate (2 - (lg_sl ([.ref (h 0), .int what])).length) Slot.unset).toArray = ls at hl ⊢
  replace hl : lv_has ls 2 [(0, .ref (h 0)), (1, .int what)] := hl
  have hKe := hK.sub (tys' := []) [] rfl
  refine lv_iload_n hx hb dX2_count_0 rfl (lv_at hl 1 rfl) ?_
  by_cases k_1_1 : what = 0
  · refine lv_tableIn (tgt := 36) hx hb dX2_count_1 (by rw [k_1_1]; decide) (by rw [k_1_1]; decide) (by rw [k_1_1]; rfl) (by decide) ?_
    refine lv_aload_n hx hb dX2_count_36 rfl (lv_at hl 0 rfl) ?_
    refine va_get (D := D) (ci := 2) (v := .ref (h 3)) (C := RX2) (T := TX2) (N := 9) hx hb hts hinX2 hown hK hP 0 rfl rfl 1 (by decide) (hts (.fieldLink RX2 19 "HoldUnless" "book" "LHoldUnless$RuleBook;") (by decide +kernel)) (fun _ h9 => h9) rfl dX2_count_37 ?_
    refine va_getN (D := D) (ci := 0) (v := .int (nI n)) (C := RX0) (T := TX0) (N := 5) hx hb hts hinX0 hown hK hP 3 rfl rfl 0 (by decide) (hN.use 18 rfl) (fun _ h9 => h9) rfl dX2_count_40 ?_
    exact ro_iret hx hb hr hS hlocks (show s_X2_count n may on asd ln what = (nI n) from by (unfold s_X2_count; (try dsimp only); (try rw [if_pos k_1_1]); first | done | rfl)).symm dX2_count_43
  · by_cases k_1_2 : what = 1
    · refine lv_tableIn (tgt := 44) hx hb dX2_count_1 (by rw [k_1_2]; decide) (by rw [k_1_2]; decide) (by rw [k_1_2]; rfl) (by decide) ?_
      refine lv_aload_n hx hb dX2_count_44 rfl (lv_at hl 0 rfl) ?_
      refine va_get (D := D) (ci := 2) (v := .int on) (C := RX2) (T := TX2) (N := 9) hx hb hts hinX2 hown hK hP 0 rfl rfl 3 (by decide) (hts (.fieldLink RX2 51 "HoldUnless" "on" "I") (by decide +kernel)) (fun _ h9 => h9) rfl dX2_count_45 ?_
      refine ro_i (D := D) (va_runS (As := [.int on]) (rest := []) ⟨hx, hb, hml, hown, hts⟩ (c_J6_bitCount_0f7a4 l D on  _) (va_cwS 1 hts gX2_count_J6_bitCount_0f7a4 rfl rfl rfl (by decide +kernel) ⟨Nat.le_of_ble_eq_true rfl, Nat.le_of_ble_eq_true rfl⟩) ⟨cPre.blind, cPre.mk vP0 hKe vD0 hN⟩ rfl rfl hl.1 rfl (lv_room (Nat.le_of_ble_eq_true rfl)) dX2_count_48 ⟨Nat.zero_le _, Nat.zero_le _⟩) hS hA (fun H locs hkp0 hS => ?_)
      replace hP := hkp0 _ hP
      exact ro_iret hx hb hr hS hlocks (show s_X2_count n may on asd ln what = (s_J6_bitCount_0f7a4 on) from by (unfold s_X2_count; (try dsimp only); (try rw [if_neg k_1_1]); (try rw [if_pos k_1_2]); first | done | rfl)).symm dX2_count_51
    · by_cases k_1_3 : what = 2
      · refine lv_tableIn (tgt := 52) hx hb dX2_count_1 (by rw [k_1_3]; decide) (by rw [k_1_3]; decide) (by rw [k_1_3]; rfl) (by decide) ?_
        refine lv_aload_n hx hb dX2_count_52 rfl (lv_at hl 0 rfl) ?_
        refine va_get (D := D) (ci := 2) (v := .ref (h 3)) (C := RX2) (T := TX2) (N := 9) hx hb hts hinX2 hown hK hP 0 rfl rfl 1 (by decide) (hts (.fieldLink RX2 19 "HoldUnless" "book" "LHoldUnless$RuleBook;") (by decide +kernel)) (fun _ h9 => h9) rfl dX2_count_53 ?_
        refine va_getN (D := D) (ci := 0) (v := .int may) (C := RX0) (T := TX0) (N := 5) hx hb hts hinX0 hown hK hP 3 rfl rfl 1 (by decide) (hN.use 20 rfl) (fun _ h9 => h9) rfl dX2_count_56 ?_
        exact ro_iret hx hb hr hS hlocks (show s_X2_count n may on asd ln what = may from by (unfold s_X2_count; (try dsimp only); (try rw [if_neg k_1_1]); (try rw [if_neg k_1_2]); (try rw [if_pos k_1_3]); first | done | rfl)).symm dX2_count_59
      · by_cases k_1_4 : what = 3
        · refine lv_tableIn (tgt := 60) hx hb dX2_count_1 (by rw [k_1_4]; decide) (by rw [k_1_4]; decide) (by rw [k_1_4]; rfl) (by decide) ?_
          refine lv_aload_n hx hb dX2_count_60 rfl (lv_at hl 0 rfl) ?_
          refine va_get (D := D) (ci := 2) (v := .int asd) (C := RX2) (T := TX2) (N := 9) hx hb hts hinX2 hown hK hP 0 rfl rfl 4 (by decide) (hts (.fieldLink RX2 54 "HoldUnless" "assumed" "I") (by decide +kernel)) (fun _ h9 => h9) rfl dX2_count_61 ?_
          exact ro_iret hx hb hr hS hlocks (show s_X2_count n may on asd ln what = asd from by (unfold s_X2_count; (try dsimp only); (try rw [if_neg k_1_1]); (try rw [if_neg k_1_2]); (try rw [if_neg k_1_3]); (try rw [if_pos k_1_4]); first | done | rfl)).symm dX2_count_64
        · by_cases k_1_5 : what = 4
          · refine lv_tableIn (tgt := 65) hx hb dX2_count_1 (by rw [k_1_5]; decide) (by rw [k_1_5]; decide) (by rw [k_1_5]; rfl) (by decide) ?_
            refine lv_aload_n hx hb dX2_count_65 rfl (lv_at hl 0 rfl) ?_
            refine va_get (D := D) (ci := 2) (v := .ref (h 1)) (C := RX2) (T := TX2) (N := 9) hx hb hts hinX2 hown hK hP 0 rfl rfl 0 (by decide) (hts (.fieldLink RX2 10 "HoldUnless" "text" "LHoldUnless$Text;") (by decide +kernel)) (fun _ h9 => h9) rfl dX2_count_66 ?_
            refine va_getN (D := D) (ci := 1) (v := .int ln) (C := RX1) (T := TX1) (N := 5) hx hb hts hinX1 hown hK hP 1 rfl rfl 1 (by decide) (hN.use 16 rfl) (fun _ h9 => h9) rfl dX2_count_69 ?_
            exact ro_iret hx hb hr hS hlocks (show s_X2_count n may on asd ln what = ln from by (unfold s_X2_count; (try dsimp only); (try rw [if_neg k_1_1]); (try rw [if_neg k_1_2]); (try rw [if_neg k_1_3]); (try rw [if_neg k_1_4]); (try rw [if_pos k_1_5]); first | done | rfl)).symm dX2_count_72
          · have ne_6 := lv_neT (a := 0) k_1_1 (by decide)
            have ne_7 := lv_neT (a := 1) k_1_2 (by decide)
            have ne_8 := lv_neT (a := 2) k_1_3 (by decide)
            have ne_9 := lv_neT (a := 3) k_1_4 (by decide)
            have ne_10 := lv_neT (a := 4) k_1_5 (by decide)
            refine lv_tableOut (tgt := 73) hx hb dX2_count_1 (by omega) (by decide) ?_
            refine lv_iconst (v := (-1)) hx hb dX2_count_73 (by decide) ?_
            exact ro_iret hx hb hr hS hlocks (show s_X2_count n may on asd ln what = (-1) from by (unfold s_X2_count; (try dsimp only); (try rw [if_neg k_1_1]); (try rw [if_neg k_1_2]); (try rw [if_neg k_1_3]); (try rw [if_neg k_1_4]); (try rw [if_neg k_1_5]); first | done | rfl)).symm dX2_count_74

def s_X2_trace (tr : Int64) : Int64 := tr
set_option maxHeartbeats 4000000 in
set_option maxRecDepth 100000 in
theorem c_X2_trace (l : Launch) (D : va_G) (h : Nat → Nat) (cA : Nat → ClassId) (n : Nat) (by_ : Nat → Int32) (ln : Int32) (pl : Int32) (tk : Int32) (tp : Int32) (may : Int32) (hd : Nat → Int32) (fi : Nat → Int32) (un : Nat → Int32) (sz2 : Int32) (may2 : Int32) (hd2 : Nat → Int32) (fi2 : Nat → Int32) (un2 : Nat → Int32) (on : Int32) (asd : Int32) (io : Nat → Int32) (ia : Nat → Int32) (kept : Int32) (tr : Int64) (hn : n ≤ 10) (sz : Nat) : Met l yX2_trace wsX2_trace ({ frames := 0, cells := 0, slots := 0, locals := 0 }) (va_Pc [.ref (h 0)] (cPre D (tX h cA) (wX h cA by_ ln pl tk tp (nI n) may hd fi un sz2 may2 hd2 fi2 un2 on asd io ia kept tr) sz)) (va_Ql (fun r (_ : Unit) => r = s_X2_trace tr) (fun _ _ => True) (fun q => sz ≤ q)) 0 0 (fun q => sz ≤ q) := by
  refine Met.ofW (cc := cX2_trace) (maxL := 1) (ret := (some .long)) (by decide) rfl ?_
  intro p e s m args below meth c s₁ B hml hv
  obtain ⟨rfl, hsz, hP, hK, hD, hN⟩ := hv
  have hx := B.exec
  have hb := B.bytes
  have hr := B.returns
  have hts := atoms_spec (ws := wsX2_trace) B.pre
  have hown : s.vm.findClass RX2 = some m.cls := findClass_of_methodNamed B.named
  have hlocks := B.notSynchronized
  have hinX2 : ∀ w ∈ wsX20, w ∈ wsX2_trace := fun w h => List.mem_cons_of_mem _ (List.mem_append_right _ h)
  subst hsz
  obtain ⟨A, hAe⟩ : ∃ A : Nat → Prop, A = (fun q : Nat => s.heap.size ≤ q) := ⟨_, rfl⟩
  have hA : ∀ q : Nat, s.heap.size ≤ q → A q := fun q h => by rw [hAe]; exact h
  have hS : va_S A s.heap s.heap [] := va_S.rf
  subst hAe
  have hl := lv_entry ([.ref (h 0)]) (n := 1) (Nat.le_of_ble_eq_true rfl)
  rw [lg_entry_eq]
  generalize (lg_sl ([.ref (h 0)]) ++ List.replicate (1 - (lg_sl ([.ref (h 0)])).length) Slot.unset).toArray = ls at hl ⊢
  replace hl : lv_has ls 1 [(0, .ref (h 0))] := hl
  have hKe := hK.sub (tys' := []) [] rfl
  refine lv_aload_n hx hb dX2_trace_0 rfl (lv_at hl 0 rfl) ?_
  refine va_get (D := D) (ci := 2) (v := .long tr) (C := RX2) (T := TX2) (N := 9) hx hb hts hinX2 hown hK hP 0 rfl rfl 8 (by decide) (hts (.fieldLink RX2 157 "HoldUnless" "traceSum" "J") (by decide +kernel)) (fun _ h9 => h9) rfl dX2_trace_1 ?_
  exact ro_lret hx hb hr hS hlocks (show s_X2_trace tr = tr from by (unfold s_X2_trace; (try dsimp only); first | done | rfl)).symm dX2_trace_4
end
section

def s_X2_turn (n : Nat) (on : Int32) (k : Int32) (v1 : Int32) : Int32 × Int32 := (if (s_X2_isRule n k) = 0 then ((-1), on) else (if (s_X2_isBit v1) = 0 then ((-1), on) else ((s_X2_bitOf on k), (s_X2_withBit on k v1))))
set_option maxHeartbeats 4000000 in
set_option maxRecDepth 100000 in
theorem c_X2_turn (l : Launch) (D : va_G) (h : Nat → Nat) (cA : Nat → ClassId) (n : Nat) (by_ : Nat → Int32) (ln : Int32) (pl : Int32) (tk : Int32) (tp : Int32) (may : Int32) (hd : Nat → Int32) (fi : Nat → Int32) (un : Nat → Int32) (sz2 : Int32) (may2 : Int32) (hd2 : Nat → Int32) (fi2 : Nat → Int32) (un2 : Nat → Int32) (on : Int32) (asd : Int32) (io : Nat → Int32) (ia : Nat → Int32) (kept : Int32) (tr : Int64) (k : Int32) (v1 : Int32) (hn : n ≤ 10) (sz : Nat) : Met l yX2_turn wsX2_turn ({ frames := 1, cells := 0, slots := 0, locals := 22 }) (va_Pc [.ref (h 0), .int k, .int v1] (cPre D (tX h cA) (wX h cA by_ ln pl tk tp (nI n) may hd fi un sz2 may2 hd2 fi2 un2 on asd io ia kept tr) sz)) (va_Qi (fun (r : Int32) (u : Int32) => (r, u) = s_X2_turn n on k v1) (rwB D (fun u : Int32 => (wX h cA by_ ln pl tk tp (nI n) may hd fi un sz2 may2 hd2 fi2 un2 u asd io ia kept tr)) (va_A (wX h cA by_ ln pl tk tp (nI n) may hd fi un sz2 may2 hd2 fi2 un2 on asd io ia kept tr) sz)) (va_A (wX h cA by_ ln pl tk tp (nI n) may hd fi un sz2 may2 hd2 fi2 un2 on asd io ia kept tr) sz)) 0 0 (va_A (wX h cA by_ ln pl tk tp (nI n) may hd fi un sz2 may2 hd2 fi2 un2 on asd io ia kept tr) sz) := by
  refine Met.ofW (cc := cX2_turn) (maxL := 4) (ret := (some .int)) (by decide) rfl ?_
  intro p e s m args below meth c s₁ B hml hv
  obtain ⟨rfl, hsz, hP, hK, hD, hN⟩ := hv
  have hx := B.exec
  have hb := B.bytes
  have hr := B.returns
  have hts := atoms_spec (ws := wsX2_turn) B.pre
  have hown : s.vm.findClass RX2 = some m.cls := findClass_of_methodNamed B.named
  have hlocks := B.notSynchronized
  have hinX2 : ∀ w ∈ wsX20, w ∈ wsX2_turn := fun w h => List.mem_cons_of_mem _ (List.mem_append_left _ (List.mem_append_right _ h))
  subst hsz
  replace hD := hD.self (sz := s.heap.size)
  generalize hAe : va_A (wX h cA by_ ln pl tk tp (nI n) may hd fi un sz2 may2 hd2 fi2 un2 on asd io ia kept tr) s.heap.size = A at hD ⊢
  have hA : ∀ q : Nat, s.heap.size ≤ q → A q := fun q h => by rw [← hAe]; exact Or.inr h
  have hS : va_S A s.heap s.heap [] := va_S.rf
  have hl := lv_entry ([.ref (h 0), .int k, .int v1]) (n := 4) (Nat.le_of_ble_eq_true rfl)
  rw [lg_entry_eq]
  generalize (lg_sl ([.ref (h 0), .int k, .int v1]) ++ List.replicate (4 - (lg_sl ([.ref (h 0), .int k, .int v1])).length) Slot.unset).toArray = ls at hl ⊢
  replace hl : lv_has ls 4 [(0, .ref (h 0)), (1, .int k), (2, .int v1)] := hl
  have hKe := hK.sub (tys' := []) [] rfl
  refine lv_aload_n hx hb dX2_turn_0 rfl (lv_at hl 0 rfl) ?_
  refine lv_iload_n hx hb dX2_turn_1 rfl (lv_at hl 1 rfl) ?_
  refine ro_i (D := D) (va_runV (As := [.int k]) (rest := []) ⟨hx, hb, hml, hown, hts⟩ (c_X2_isRule l D h cA n by_ ln pl tk tp may hd fi un sz2 may2 hd2 fi2 un2 on asd io ia kept tr k (by first | assumption | omega) _) (cwV 1 hts gX2_turn_X2_isRule rfl rfl rfl (by decide +kernel) ⟨Nat.le_of_ble_eq_true rfl, Nat.le_of_ble_eq_true rfl⟩) ⟨cPre.blind, va_recv hK hP (ci := 2) (q0 := 0) rfl rfl, cPre.mk hP hK hD hN⟩ rfl rfl hl.1 rfl (lv_room (Nat.le_of_ble_eq_true rfl)) dX2_turn_2 ⟨Nat.zero_le _, Nat.zero_le _⟩) hS hA (fun H locs hkp0 hS => ?_)
  replace hP := hkp0 _ hP
  refine lv_if_eq (tgt := 15) hx hb dX2_turn_5 (by decide) (fun c_5_1 => ?_) (fun c_5_1 => ?_)
  · refine lv_iconst (v := (-1)) hx hb dX2_turn_15 (by decide) ?_
    exact rw_iret hx hb hr hS hlocks on (show s_X2_turn n on k v1 = ((-1), on) from by (unfold s_X2_turn; (try dsimp only); (try rw [if_pos c_5_1]); first | done | rfl)).symm hP hD dX2_turn_16
  · refine lv_iload_n hx hb dX2_turn_8 rfl (lv_at hl 2 rfl) ?_
    refine ro_i (D := D) (va_runS (As := [.int v1]) (rest := []) ⟨hx, hb, hml, hown, hts⟩ (c_X2_isBit l D v1  _) (va_cwS 1 hts gX2_turn_X2_isBit rfl rfl rfl (by decide +kernel) ⟨Nat.le_of_ble_eq_true rfl, Nat.le_of_ble_eq_true rfl⟩) ⟨cPre.blind, cPre.mk vP0 hKe vD0 hN⟩ rfl rfl hl.1 rfl (lv_room (Nat.le_of_ble_eq_true rfl)) dX2_turn_9 ⟨Nat.zero_le _, Nat.zero_le _⟩) hS hA (fun H locs hkp0 hS => ?_)
    replace hP := hkp0 _ hP
    refine lv_if_ne (tgt := 17) hx hb dX2_turn_12 (by decide) (fun c_12_2 => ?_) (fun c_12_2 => ?_)
    · refine lv_aload_n hx hb dX2_turn_17 rfl (lv_at hl 0 rfl) ?_
      refine va_get (D := D) (ci := 2) (v := .int on) (C := RX2) (T := TX2) (N := 9) hx hb hts hinX2 hown hK hP 0 rfl rfl 3 (by decide) (hts (.fieldLink RX2 51 "HoldUnless" "on" "I") (by decide +kernel)) (fun _ h9 => h9) rfl dX2_turn_18 ?_
      refine lv_iload_n hx hb dX2_turn_21 rfl (lv_at hl 1 rfl) ?_
      refine ro_i (D := D) (va_runS (As := [.int on, .int k]) (rest := []) ⟨hx, hb, hml, hown, hts⟩ (c_X2_bitOf l D on k  _) (va_cwS 2 hts gX2_turn_X2_bitOf rfl rfl rfl (by decide +kernel) ⟨Nat.le_of_ble_eq_true rfl, Nat.le_of_ble_eq_true rfl⟩) ⟨cPre.blind, cPre.mk vP0 hKe vD0 hN⟩ rfl rfl hl.1 rfl (lv_room (Nat.le_of_ble_eq_true rfl)) dX2_turn_22 ⟨Nat.zero_le _, Nat.zero_le _⟩) hS hA (fun H locs hkp0 hS => ?_)
      replace hP := hkp0 _ hP
      refine lv_istore_n (lv' := [(3, .int (s_X2_bitOf on k)), (0, .ref (h 0)), (1, .int k), (2, .int v1)]) hx hb dX2_turn_25 rfl hl (by decide) rfl (fun ls hl => ?_)
      refine lv_aload_n hx hb dX2_turn_26 rfl (lv_at hl 1 rfl) ?_
      refine lv_aload_n hx hb dX2_turn_27 rfl (lv_at hl 1 rfl) ?_
      refine va_get (D := D) (ci := 2) (v := .int on) (C := RX2) (T := TX2) (N := 9) hx hb hts hinX2 hown hK hP 0 rfl rfl 3 (by decide) (hts (.fieldLink RX2 51 "HoldUnless" "on" "I") (by decide +kernel)) (fun _ h9 => h9) rfl dX2_turn_28 ?_
      refine lv_iload_n hx hb dX2_turn_31 rfl (lv_at hl 2 rfl) ?_
      refine lv_iload_n hx hb dX2_turn_32 rfl (lv_at hl 3 rfl) ?_
      refine ro_i (D := D) (va_runS (As := [.int on, .int k, .int v1]) (rest := [.ref (h 0)]) ⟨hx, hb, hml, hown, hts⟩ (c_X2_withBit l D on k v1  _) (va_cwS 3 hts gX2_turn_X2_withBit rfl rfl rfl (by decide +kernel) ⟨Nat.le_of_ble_eq_true rfl, Nat.le_of_ble_eq_true rfl⟩) ⟨cPre.blind, cPre.mk vP0 hKe vD0 hN⟩ rfl rfl hl.1 rfl (lv_room (Nat.le_of_ble_eq_true rfl)) dX2_turn_33 ⟨Nat.zero_le _, Nat.zero_le _⟩) hS hA (fun H locs hkp0 hS => ?_)
      replace hP := hkp0 _ hP
      refine va_put (D := D) (ci := 2) (v := .int (s_X2_withBit on k v1)) (ty := .int) (C := RX2) (T := TX2) (N := 9) hx hb hts hinX2 tyX2 tyX2_ok nmX2 hown hK hP hD hS 0 rfl rfl 3 (by decide) (hts (.fieldLink RX2 51 "HoldUnless" "on" "I") (by decide +kernel)) (fun _ h9 => h9) rfl (by decide +kernel) rfl rfl (Nat.le_of_ble_eq_true rfl) dX2_turn_36 (fun H locs hP hD hS => ?_)
      replace hP : va_P D vwCl (wX h cA by_ ln pl tk tp (nI n) may hd fi un sz2 may2 hd2 fi2 un2 (s_X2_withBit on k v1) asd io ia kept tr) H := hP
      replace hD : va_D A (wX h cA by_ ln pl tk tp (nI n) may hd fi un sz2 may2 hd2 fi2 un2 (s_X2_withBit on k v1) asd io ia kept tr) := hD
      refine lv_iload_n hx hb dX2_turn_39 rfl (lv_at hl 0 rfl) ?_
      exact rw_iret hx hb hr hS hlocks (s_X2_withBit on k v1) (show s_X2_turn n on k v1 = ((s_X2_bitOf on k), (s_X2_withBit on k v1)) from by (unfold s_X2_turn; (try dsimp only); (try rw [if_neg c_5_1]); (try rw [if_neg c_12_2]); first | done | rfl)).symm hP hD dX2_turn_40
    · refine lv_iconst (v := (-1)) hx hb dX2_turn_15 (by decide) ?_
      exact rw_iret hx hb hr hS hlocks on (show s_X2_turn n on k v1 = ((-1), on) from by (unfold s_X2_turn; (try dsimp only); (try rw [if_neg c_5_1]); (try rw [if_pos c_12_2]); first | done | rfl)).symm hP hD dX2_turn_16

def s_X2_assume (asd : Int32) (a : Int32) (v1 : Int32) : Int32 × Int32 := (if (s_X2_isSentence a) = 0 then ((-1), asd) else (if (s_X2_isBit v1) = 0 then ((-1), asd) else ((s_X2_bitOf asd a), (s_X2_withBit asd a v1))))
set_option maxHeartbeats 4000000 in
set_option maxRecDepth 100000 in
theorem c_X2_assume (l : Launch) (D : va_G) (h : Nat → Nat) (cA : Nat → ClassId) (n : Nat) (by_ : Nat → Int32) (ln : Int32) (pl : Int32) (tk : Int32) (tp : Int32) (may : Int32) (hd : Nat → Int32) (fi : Nat → Int32) (un : Nat → Int32) (sz2 : Int32) (may2 : Int32) (hd2 : Nat → Int32) (fi2 : Nat → Int32) (un2 : Nat → Int32) (on : Int32) (asd : Int32) (io : Nat → Int32) (ia : Nat → Int32) (kept : Int32) (tr : Int64) (a : Int32) (v1 : Int32) (hn : n ≤ 10) (sz : Nat) : Met l yX2_assume wsX2_assume ({ frames := 1, cells := 0, slots := 0, locals := 22 }) (va_Pc [.ref (h 0), .int a, .int v1] (cPre D (tX h cA) (wX h cA by_ ln pl tk tp (nI n) may hd fi un sz2 may2 hd2 fi2 un2 on asd io ia kept tr) sz)) (va_Qi (fun (r : Int32) (u : Int32) => (r, u) = s_X2_assume asd a v1) (rwB D (fun u : Int32 => (wX h cA by_ ln pl tk tp (nI n) may hd fi un sz2 may2 hd2 fi2 un2 on u io ia kept tr)) (va_A (wX h cA by_ ln pl tk tp (nI n) may hd fi un sz2 may2 hd2 fi2 un2 on asd io ia kept tr) sz)) (va_A (wX h cA by_ ln pl tk tp (nI n) may hd fi un sz2 may2 hd2 fi2 un2 on asd io ia kept tr) sz)) 0 0 (va_A (wX h cA by_ ln pl tk tp (nI n) may hd fi un sz2 may2 hd2 fi2 un2 on asd io ia kept tr) sz) := by
  refine Met.ofW (cc := cX2_assume) (maxL := 4) (ret := (some .int)) (by decide) rfl ?_
  intro p e s m args below meth c s₁ B hml hv
  obtain ⟨rfl, hsz, hP, hK, hD, hN⟩ := hv
  have hx := B.exec
  have hb := B.bytes
  have hr := B.returns
  have hts := atoms_spec (ws := wsX2_assume) B.pre
  have hown : s.vm.findClass RX2 = some m.cls := findClass_of_methodNamed B.named
  have hlocks := B.notSynchronized
  have hinX2 : ∀ w ∈ wsX20, w ∈ wsX2_assume := fun w h => List.mem_cons_of_mem _ (List.mem_append_right _ h)
  subst hsz
  replace hD := hD.self (sz := s.heap.size)
  generalize hAe : va_A (wX h cA by_ ln pl tk tp (nI n) may hd fi un sz2 may2 hd2 fi2 un2 on asd io ia kept tr) s.heap.size = A at hD ⊢
  have hA : ∀ q : Nat, s.heap.size ≤ q → A q := fun q h => by rw [← hAe]; exact Or.inr h
  have hS : va_S A s.heap s.heap [] := va_S.rf
  have hl := lv_entry ([.ref (h 0), .int a, .int v1]) (n := 4) (Nat.le_of_ble_eq_true rfl)
  rw [lg_entry_eq]
  generalize (lg_sl ([.ref (h 0), .int a, .int v1]) ++ List.replicate (4 - (lg_sl ([.ref (h 0), .int a, .int v1])).length) Slot.unset).toArray = ls at hl ⊢
  replace hl : lv_has ls 4 [(0, .ref (h 0)), (1, .int a), (2, .int v1)] := hl
  have hKe := hK.sub (tys' := []) [] rfl
  refine lv_iload_n hx hb dX2_assume_0 rfl (lv_at hl 1 rfl) ?_
  refine ro_i (D := D) (va_runS (As := [.int a]) (rest := []) ⟨hx, hb, hml, hown, hts⟩ (c_X2_isSentence l D a  _) (va_cwS 1 hts gX2_assume_X2_isSentence rfl rfl rfl (by decide +kernel) ⟨Nat.le_of_ble_eq_true rfl, Nat.le_of_ble_eq_true rfl⟩) ⟨cPre.blind, cPre.mk vP0 hKe vD0 hN⟩ rfl rfl hl.1 rfl (lv_room (Nat.le_of_ble_eq_true rfl)) dX2_assume_1 ⟨Nat.zero_le _, Nat.zero_le _⟩) hS hA (fun H locs hkp0 hS => ?_)
  replace hP := hkp0 _ hP
  refine lv_if_eq (tgt := 14) hx hb dX2_assume_4 (by decide) (fun c_4_1 => ?_) (fun c_4_1 => ?_)
  · refine lv_iconst (v := (-1)) hx hb dX2_assume_14 (by decide) ?_
    exact rw_iret hx hb hr hS hlocks asd (show s_X2_assume asd a v1 = ((-1), asd) from by (unfold s_X2_assume; (try dsimp only); (try rw [if_pos c_4_1]); first | done | rfl)).symm hP hD dX2_assume_15
  · refine lv_iload_n hx hb dX2_assume_7 rfl (lv_at hl 2 rfl) ?_
    refine ro_i (D := D) (va_runS (As := [.int v1]) (rest := []) ⟨hx, hb, hml, hown, hts⟩ (c_X2_isBit l D v1  _) (va_cwS 1 hts gX2_assume_X2_isBit rfl rfl rfl (by decide +kernel) ⟨Nat.le_of_ble_eq_true rfl, Nat.le_of_ble_eq_true rfl⟩) ⟨cPre.blind, cPre.mk vP0 hKe vD0 hN⟩ rfl rfl hl.1 rfl (lv_room (Nat.le_of_ble_eq_true rfl)) dX2_assume_8 ⟨Nat.zero_le _, Nat.zero_le _⟩) hS hA (fun H locs hkp0 hS => ?_)
    replace hP := hkp0 _ hP
    refine lv_if_ne (tgt := 16) hx hb dX2_assume_11 (by decide) (fun c_11_2 => ?_) (fun c_11_2 => ?_)
    · refine lv_aload_n hx hb dX2_assume_16 rfl (lv_at hl 0 rfl) ?_
      refine va_get (D := D) (ci := 2) (v := .int asd) (C := RX2) (T := TX2) (N := 9) hx hb hts hinX2 hown hK hP 0 rfl rfl 4 (by decide) (hts (.fieldLink RX2 54 "HoldUnless" "assumed" "I") (by decide +kernel)) (fun _ h9 => h9) rfl dX2_assume_17 ?_
      refine lv_iload_n hx hb dX2_assume_20 rfl (lv_at hl 1 rfl) ?_
      refine ro_i (D := D) (va_runS (As := [.int asd, .int a]) (rest := []) ⟨hx, hb, hml, hown, hts⟩ (c_X2_bitOf l D asd a  _) (va_cwS 2 hts gX2_assume_X2_bitOf rfl rfl rfl (by decide +kernel) ⟨Nat.le_of_ble_eq_true rfl, Nat.le_of_ble_eq_true rfl⟩) ⟨cPre.blind, cPre.mk vP0 hKe vD0 hN⟩ rfl rfl hl.1 rfl (lv_room (Nat.le_of_ble_eq_true rfl)) dX2_assume_21 ⟨Nat.zero_le _, Nat.zero_le _⟩) hS hA (fun H locs hkp0 hS => ?_)
      replace hP := hkp0 _ hP
      refine lv_istore_n (lv' := [(3, .int (s_X2_bitOf asd a)), (0, .ref (h 0)), (1, .int a), (2, .int v1)]) hx hb dX2_assume_24 rfl hl (by decide) rfl (fun ls hl => ?_)
      refine lv_aload_n hx hb dX2_assume_25 rfl (lv_at hl 1 rfl) ?_
      refine lv_aload_n hx hb dX2_assume_26 rfl (lv_at hl 1 rfl) ?_
      refine va_get (D := D) (ci := 2) (v := .int asd) (C := RX2) (T := TX2) (N := 9) hx hb hts hinX2 hown hK hP 0 rfl rfl 4 (by decide) (hts (.fieldLink RX2 54 "HoldUnless" "assumed" "I") (by decide +kernel)) (fun _ h9 => h9) rfl dX2_assume_27 ?_
      refine lv_iload_n hx hb dX2_assume_30 rfl (lv_at hl 2 rfl) ?_
      refine lv_iload_n hx hb dX2_assume_31 rfl (lv_at hl 3 rfl) ?_
      refine ro_i (D := D) (va_runS (As := [.int asd, .int a, .int v1]) (rest := [.ref (h 0)]) ⟨hx, hb, hml, hown, hts⟩ (c_X2_withBit l D asd a v1  _) (va_cwS 3 hts gX2_assume_X2_withBit rfl rfl rfl (by decide +kernel) ⟨Nat.le_of_ble_eq_true rfl, Nat.le_of_ble_eq_true rfl⟩) ⟨cPre.blind, cPre.mk vP0 hKe vD0 hN⟩ rfl rfl hl.1 rfl (lv_room (Nat.le_of_ble_eq_true rfl)) dX2_assume_32 ⟨Nat.zero_le _, Nat.zero_le _⟩) hS hA (fun H locs hkp0 hS => ?_)
      replace hP := hkp0 _ hP
      refine va_put (D := D) (ci := 2) (v := .int (s_X2_withBit asd a v1)) (ty := .int) (C := RX2) (T := TX2) (N := 9) hx hb hts hinX2 tyX2 tyX2_ok nmX2 hown hK hP hD hS 0 rfl rfl 4 (by decide) (hts (.fieldLink RX2 54 "HoldUnless" "assumed" "I") (by decide +kernel)) (fun _ h9 => h9) rfl (by decide +kernel) rfl rfl (Nat.le_of_ble_eq_true rfl) dX2_assume_35 (fun H locs hP hD hS => ?_)
      replace hP : va_P D vwCl (wX h cA by_ ln pl tk tp (nI n) may hd fi un sz2 may2 hd2 fi2 un2 on (s_X2_withBit asd a v1) io ia kept tr) H := hP
      replace hD : va_D A (wX h cA by_ ln pl tk tp (nI n) may hd fi un sz2 may2 hd2 fi2 un2 on (s_X2_withBit asd a v1) io ia kept tr) := hD
      refine lv_iload_n hx hb dX2_assume_38 rfl (lv_at hl 0 rfl) ?_
      exact rw_iret hx hb hr hS hlocks (s_X2_withBit asd a v1) (show s_X2_assume asd a v1 = ((s_X2_bitOf asd a), (s_X2_withBit asd a v1)) from by (unfold s_X2_assume; (try dsimp only); (try rw [if_neg c_4_1]); (try rw [if_neg c_11_2]); first | done | rfl)).symm hP hD dX2_assume_39
    · refine lv_iconst (v := (-1)) hx hb dX2_assume_14 (by decide) ?_
      exact rw_iret hx hb hr hS hlocks asd (show s_X2_assume asd a v1 = ((-1), asd) from by (unfold s_X2_assume; (try dsimp only); (try rw [if_neg c_4_1]); (try rw [if_pos c_11_2]); first | done | rfl)).symm hP hD dX2_assume_15

def s_X2_clear (ln : Int32) : Int32 × Int32 := (ln, 0)
set_option maxHeartbeats 4000000 in
set_option maxRecDepth 100000 in
theorem c_X2_clear (l : Launch) (D : va_G) (h : Nat → Nat) (cA : Nat → ClassId) (n : Nat) (by_ : Nat → Int32) (ln : Int32) (pl : Int32) (tk : Int32) (tp : Int32) (may : Int32) (hd : Nat → Int32) (fi : Nat → Int32) (un : Nat → Int32) (sz2 : Int32) (may2 : Int32) (hd2 : Nat → Int32) (fi2 : Nat → Int32) (un2 : Nat → Int32) (on : Int32) (asd : Int32) (io : Nat → Int32) (ia : Nat → Int32) (kept : Int32) (tr : Int64) (hn : n ≤ 10) (sz : Nat) : Met l yX2_clear wsX2_clear ({ frames := 0, cells := 0, slots := 0, locals := 0 }) (va_Pc [.ref (h 0)] (cPre D (tX h cA) (wX h cA by_ ln pl tk tp (nI n) may hd fi un sz2 may2 hd2 fi2 un2 on asd io ia kept tr) sz)) (va_Qi (fun (r : Int32) (u : Int32) => (r, u) = s_X2_clear ln) (rwB D (fun u : Int32 => (wX h cA by_ u pl tk tp (nI n) may hd fi un sz2 may2 hd2 fi2 un2 on asd io ia kept tr)) (va_A (wX h cA by_ ln pl tk tp (nI n) may hd fi un sz2 may2 hd2 fi2 un2 on asd io ia kept tr) sz)) (va_A (wX h cA by_ ln pl tk tp (nI n) may hd fi un sz2 may2 hd2 fi2 un2 on asd io ia kept tr) sz)) 0 0 (va_A (wX h cA by_ ln pl tk tp (nI n) may hd fi un sz2 may2 hd2 fi2 un2 on asd io ia kept tr) sz) := by
  refine Met.ofW (cc := cX2_clear) (maxL := 2) (ret := (some .int)) (by decide) rfl ?_
  intro p e s m args below meth c s₁ B hml hv
  obtain ⟨rfl, hsz, hP, hK, hD, hN⟩ := hv
  have hx := B.exec
  have hb := B.bytes
  have hr := B.returns
  have hts := atoms_spec (ws := wsX2_clear) B.pre
  have hown : s.vm.findClass RX2 = some m.cls := findClass_of_methodNamed B.named
  have hlocks := B.notSynchronized
  have hinX1 : ∀ w ∈ wsX10, w ∈ wsX2_clear := fun w h => List.mem_cons_of_mem _ (List.mem_append_right _ h)
  have hinX2 : ∀ w ∈ wsX20, w ∈ wsX2_clear := fun w h => List.mem_cons_of_mem _ (List.mem_append_left _ (List.mem_append_right _ h))
  subst hsz
  replace hD := hD.self (sz := s.heap.size)
  generalize hAe : va_A (wX h cA by_ ln pl tk tp (nI n) may hd fi un sz2 may2 hd2 fi2 un2 on asd io ia kept tr) s.heap.size = A at hD ⊢
  have hA : ∀ q : Nat, s.heap.size ≤ q → A q := fun q h => by rw [← hAe]; exact Or.inr h
  have hS : va_S A s.heap s.heap [] := va_S.rf
  have hl := lv_entry ([.ref (h 0)]) (n := 2) (Nat.le_of_ble_eq_true rfl)
  rw [lg_entry_eq]
  generalize (lg_sl ([.ref (h 0)]) ++ List.replicate (2 - (lg_sl ([.ref (h 0)])).length) Slot.unset).toArray = ls at hl ⊢
  replace hl : lv_has ls 2 [(0, .ref (h 0))] := hl
  have hKe := hK.sub (tys' := []) [] rfl
  refine lv_aload_n hx hb dX2_clear_0 rfl (lv_at hl 0 rfl) ?_
  refine va_get (D := D) (ci := 2) (v := .ref (h 1)) (C := RX2) (T := TX2) (N := 9) hx hb hts hinX2 hown hK hP 0 rfl rfl 0 (by decide) (hts (.fieldLink RX2 10 "HoldUnless" "text" "LHoldUnless$Text;") (by decide +kernel)) (fun _ h9 => h9) rfl dX2_clear_1 ?_
  refine va_getN (D := D) (ci := 1) (v := .int ln) (C := RX1) (T := TX1) (N := 5) hx hb hts hinX1 hown hK hP 1 rfl rfl 1 (by decide) (hN.use 16 rfl) (fun _ h9 => h9) rfl dX2_clear_4 ?_
  refine lv_istore_n (lv' := [(1, .int ln), (0, .ref (h 0))]) hx hb dX2_clear_7 rfl hl (by decide) rfl (fun ls hl => ?_)
  refine lv_aload_n hx hb dX2_clear_8 rfl (lv_at hl 1 rfl) ?_
  refine va_get (D := D) (ci := 2) (v := .ref (h 1)) (C := RX2) (T := TX2) (N := 9) hx hb hts hinX2 hown hK hP 0 rfl rfl 0 (by decide) (hts (.fieldLink RX2 10 "HoldUnless" "text" "LHoldUnless$Text;") (by decide +kernel)) (fun _ h9 => h9) rfl dX2_clear_9 ?_
  refine lv_iconst (v := 0) hx hb dX2_clear_12 (by decide) ?_
  refine va_putN (D := D) (ci := 1) (v := .int 0) (ty := .int) (C := RX1) (T := TX1) (N := 5) hx hb hts hinX1 tyX1 tyX1_ok nmX1 hown hK hP hD hS 1 rfl rfl 1 (by decide) (hN.use 16 rfl) (fun _ h9 => h9) rfl (by decide +kernel) rfl rfl (Nat.le_of_ble_eq_true rfl) dX2_clear_13 (fun H locs hP hD hS => ?_)
  replace hP : va_P D vwCl (wX h cA by_ 0 pl tk tp (nI n) may hd fi un sz2 may2 hd2 fi2 un2 on asd io ia kept tr) H := hP
  replace hD : va_D A (wX h cA by_ 0 pl tk tp (nI n) may hd fi un sz2 may2 hd2 fi2 un2 on asd io ia kept tr) := hD
  refine lv_iload_n hx hb dX2_clear_16 rfl (lv_at hl 0 rfl) ?_
  exact rw_iret hx hb hr hS hlocks 0 (show s_X2_clear ln = (ln, 0) from by (unfold s_X2_clear; (try dsimp only); first | done | rfl)).symm hP hD dX2_clear_17

def s_X2_keep (on : Int32) (asd : Int32) (io : Nat → Int32) (ia : Nat → Int32) (kept : Int32) (image : Int32) : Int32 × (Nat → Int32) × (Nat → Int32) × Int32 := (if (s_X2_isImage image) = 0 then ((-1), io, ia, kept) else ((s_J6_bitCount_0f7a4 on), (upd io image.toNatClampNeg on), (upd ia image.toNatClampNeg asd), (kept ||| (1 <<< (image &&& 31)))))
set_option maxHeartbeats 4000000 in
set_option maxRecDepth 100000 in
theorem c_X2_keep (l : Launch) (D : va_G) (h : Nat → Nat) (cA : Nat → ClassId) (n : Nat) (by_ : Nat → Int32) (ln : Int32) (pl : Int32) (tk : Int32) (tp : Int32) (may : Int32) (hd : Nat → Int32) (fi : Nat → Int32) (un : Nat → Int32) (sz2 : Int32) (may2 : Int32) (hd2 : Nat → Int32) (fi2 : Nat → Int32) (un2 : Nat → Int32) (on : Int32) (asd : Int32) (io : Nat → Int32) (ia : Nat → Int32) (kept : Int32) (tr : Int64) (image : Int32) (hn : n ≤ 10) (sz : Nat) : Met l yX2_keep wsX2_keep ({ frames := 1, cells := 0, slots := 0, locals := 20 }) (va_Pc [.ref (h 0), .int image] (cPre D (tX h cA) (wX h cA by_ ln pl tk tp (nI n) may hd fi un sz2 may2 hd2 fi2 un2 on asd io ia kept tr) sz)) (va_Qi (fun (r : Int32) (u : (Nat → Int32) × (Nat → Int32) × Int32) => (r, u.1, u.2.1, u.2.2) = s_X2_keep on asd io ia kept image) (rwB D (fun u : (Nat → Int32) × (Nat → Int32) × Int32 => (wX h cA by_ ln pl tk tp (nI n) may hd fi un sz2 may2 hd2 fi2 un2 on asd u.1 u.2.1 u.2.2 tr)) (va_A (wX h cA by_ ln pl tk tp (nI n) may hd fi un sz2 may2 hd2 fi2 un2 on asd io ia kept tr) sz)) (va_A (wX h cA by_ ln pl tk tp (nI n) may hd fi un sz2 may2 hd2 fi2 un2 on asd io ia kept tr) sz)) 0 0 (va_A (wX h cA by_ ln pl tk tp (nI n) may hd fi un sz2 may2 hd2 fi2 un2 on asd io ia kept tr) sz) := by
  refine Met.ofW (cc := cX2_keep) (maxL := 2) (ret := (some .int)) (by decide) rfl ?_
  intro p e s m args below meth c s₁ B hml hv
  obtain ⟨rfl, hsz, hP, hK, hD, hN⟩ := hv
  have hx := B.exec
  have hb := B.bytes
  have hr := B.returns
  have hts := atoms_spec (ws := wsX2_keep) B.pre
  have hown : s.vm.findClass RX2 = some m.cls := findClass_of_methodNamed B.named
  have hlocks := B.notSynchronized
  have hinX2 : ∀ w ∈ wsX20, w ∈ wsX2_keep := fun w h => List.mem_cons_of_mem _ (List.mem_append_right _ h)
  subst hsz
  replace hD := hD.self (sz := s.heap.size)
  generalize hAe : va_A (wX h cA by_ ln pl tk tp (nI n) may hd fi un sz2 may2 hd2 fi2 un2 on asd io ia kept tr) s.heap.size = A at hD ⊢
  have hA : ∀ q : Nat, s.heap.size ≤ q → A q := fun q h => by rw [← hAe]; exact Or.inr h
  have hS : va_S A s.heap s.heap [] := va_S.rf
  have hl := lv_entry ([.ref (h 0), .int image]) (n := 2) (Nat.le_of_ble_eq_true rfl)
  rw [lg_entry_eq]
  generalize (lg_sl ([.ref (h 0), .int image]) ++ List.replicate (2 - (lg_sl ([.ref (h 0), .int image])).length) Slot.unset).toArray = ls at hl ⊢
  replace hl : lv_has ls 2 [(0, .ref (h 0)), (1, .int image)] := hl
  have hKe := hK.sub (tys' := []) [] rfl
  refine lv_iload_n hx hb dX2_keep_0 rfl (lv_at hl 1 rfl) ?_
  refine ro_i (D := D) (va_runS (As := [.int image]) (rest := []) ⟨hx, hb, hml, hown, hts⟩ (c_X2_isImage l D image  _) (va_cwS 1 hts gX2_keep_X2_isImage rfl rfl rfl (by decide +kernel) ⟨Nat.le_of_ble_eq_true rfl, Nat.le_of_ble_eq_true rfl⟩) ⟨cPre.blind, cPre.mk vP0 hKe vD0 hN⟩ rfl rfl hl.1 rfl (lv_room (Nat.le_of_ble_eq_true rfl)) dX2_keep_1 ⟨Nat.zero_le _, Nat.zero_le _⟩) hS hA (fun H locs hkp0 hS => ?_)
  replace hP := hkp0 _ hP
  refine lv_if_ne (tgt := 9) hx hb dX2_keep_4 (by decide) (fun c_4_1 => ?_) (fun c_4_1 => ?_)
  · refine lv_aload_n hx hb dX2_keep_9 rfl (lv_at hl 0 rfl) ?_
    refine va_get (D := D) (ci := 2) (v := .ref (h 11)) (C := RX2) (T := TX2) (N := 9) hx hb hts hinX2 hown hK hP 0 rfl rfl 5 (by decide) (hts (.fieldLink RX2 26 "HoldUnless" "imageOn" "[I") (by decide +kernel)) (fun _ h9 => h9) rfl dX2_keep_10 ?_
    refine lv_iload_n hx hb dX2_keep_13 rfl (lv_at hl 1 rfl) ?_
    refine lv_aload_n hx hb dX2_keep_14 rfl (lv_at hl 0 rfl) ?_
    refine va_get (D := D) (ci := 2) (v := .int on) (C := RX2) (T := TX2) (N := 9) hx hb hts hinX2 hown hK hP 0 rfl rfl 3 (by decide) (hts (.fieldLink RX2 51 "HoldUnless" "on" "I") (by decide +kernel)) (fun _ h9 => h9) rfl dX2_keep_15 ?_
    refine va_iast hx hb hK hP hD hS 11 7 rfl rfl ((vp_image c_4_1)) dX2_keep_18 (fun H locs hP hD hS => ?_)
    replace hP : va_P D vwCl (wX h cA by_ ln pl tk tp (nI n) may hd fi un sz2 may2 hd2 fi2 un2 on asd (upd io image.toNatClampNeg on) ia kept tr) H := hP
    replace hD : va_D A (wX h cA by_ ln pl tk tp (nI n) may hd fi un sz2 may2 hd2 fi2 un2 on asd (upd io image.toNatClampNeg on) ia kept tr) := hD
    refine lv_aload_n hx hb dX2_keep_19 rfl (lv_at hl 0 rfl) ?_
    refine va_get (D := D) (ci := 2) (v := .ref (h 12)) (C := RX2) (T := TX2) (N := 9) hx hb hts hinX2 hown hK hP 0 rfl rfl 6 (by decide) (hts (.fieldLink RX2 30 "HoldUnless" "imageAssumed" "[I") (by decide +kernel)) (fun _ h9 => h9) rfl dX2_keep_20 ?_
    refine lv_iload_n hx hb dX2_keep_23 rfl (lv_at hl 1 rfl) ?_
    refine lv_aload_n hx hb dX2_keep_24 rfl (lv_at hl 0 rfl) ?_
    refine va_get (D := D) (ci := 2) (v := .int asd) (C := RX2) (T := TX2) (N := 9) hx hb hts hinX2 hown hK hP 0 rfl rfl 4 (by decide) (hts (.fieldLink RX2 54 "HoldUnless" "assumed" "I") (by decide +kernel)) (fun _ h9 => h9) rfl dX2_keep_25 ?_
    refine va_iast hx hb hK hP hD hS 12 8 rfl rfl ((vp_image c_4_1)) dX2_keep_28 (fun H locs hP hD hS => ?_)
    replace hP : va_P D vwCl (wX h cA by_ ln pl tk tp (nI n) may hd fi un sz2 may2 hd2 fi2 un2 on asd (upd io image.toNatClampNeg on) (upd ia image.toNatClampNeg asd) kept tr) H := hP
    replace hD : va_D A (wX h cA by_ ln pl tk tp (nI n) may hd fi un sz2 may2 hd2 fi2 un2 on asd (upd io image.toNatClampNeg on) (upd ia image.toNatClampNeg asd) kept tr) := hD
    refine lv_aload_n hx hb dX2_keep_29 rfl (lv_at hl 0 rfl) ?_
    refine lv_dup hx hb dX2_keep_30 rfl ?_
    refine va_get (D := D) (ci := 2) (v := .int kept) (C := RX2) (T := TX2) (N := 9) hx hb hts hinX2 hown hK hP 0 rfl rfl 7 (by decide) (hts (.fieldLink RX2 57 "HoldUnless" "imagesKept" "I") (by decide +kernel)) (fun _ h9 => h9) rfl dX2_keep_31 ?_
    refine lv_iconst (v := 1) hx hb dX2_keep_34 (by decide) ?_
    refine lv_iload_n hx hb dX2_keep_35 rfl (lv_at hl 1 rfl) ?_
    refine lv_ishl hx hb dX2_keep_36 ?_
    refine lv_ior hx hb dX2_keep_37 ?_
    refine va_put (D := D) (ci := 2) (v := .int (kept ||| (1 <<< (image &&& 31)))) (ty := .int) (C := RX2) (T := TX2) (N := 9) hx hb hts hinX2 tyX2 tyX2_ok nmX2 hown hK hP hD hS 0 rfl rfl 7 (by decide) (hts (.fieldLink RX2 57 "HoldUnless" "imagesKept" "I") (by decide +kernel)) (fun _ h9 => h9) rfl (by decide +kernel) rfl rfl (Nat.le_of_ble_eq_true rfl) dX2_keep_38 (fun H locs hP hD hS => ?_)
    replace hP : va_P D vwCl (wX h cA by_ ln pl tk tp (nI n) may hd fi un sz2 may2 hd2 fi2 un2 on asd (upd io image.toNatClampNeg on) (upd ia image.toNatClampNeg asd) (kept ||| (1 <<< (image &&& 31))) tr) H := hP
    replace hD : va_D A (wX h cA by_ ln pl tk tp (nI n) may hd fi un sz2 may2 hd2 fi2 un2 on asd (upd io image.toNatClampNeg on) (upd ia image.toNatClampNeg asd) (kept ||| (1 <<< (image &&& 31))) tr) := hD
    refine lv_aload_n hx hb dX2_keep_41 rfl (lv_at hl 0 rfl) ?_
    refine va_get (D := D) (ci := 2) (v := .int on) (C := RX2) (T := TX2) (N := 9) hx hb hts hinX2 hown hK hP 0 rfl rfl 3 (by decide) (hts (.fieldLink RX2 51 "HoldUnless" "on" "I") (by decide +kernel)) (fun _ h9 => h9) rfl dX2_keep_42 ?_
    refine ro_i (D := D) (va_runS (As := [.int on]) (rest := []) ⟨hx, hb, hml, hown, hts⟩ (c_J6_bitCount_0f7a4 l D on  _) (va_cwS 1 hts gX2_keep_J6_bitCount_0f7a4 rfl rfl rfl (by decide +kernel) ⟨Nat.le_of_ble_eq_true rfl, Nat.le_of_ble_eq_true rfl⟩) ⟨cPre.blind, cPre.mk vP0 hKe vD0 hN⟩ rfl rfl hl.1 rfl (lv_room (Nat.le_of_ble_eq_true rfl)) dX2_keep_45 ⟨Nat.zero_le _, Nat.zero_le _⟩) hS hA (fun H locs hkp0 hS => ?_)
    replace hP := hkp0 _ hP
    exact rw_iret hx hb hr hS hlocks ((upd io image.toNatClampNeg on), (upd ia image.toNatClampNeg asd), (kept ||| (1 <<< (image &&& 31)))) (show s_X2_keep on asd io ia kept image = ((s_J6_bitCount_0f7a4 on), (upd io image.toNatClampNeg on), (upd ia image.toNatClampNeg asd), (kept ||| (1 <<< (image &&& 31)))) from by (unfold s_X2_keep; (try dsimp only); (try rw [if_neg c_4_1]); first | done | rfl)).symm hP hD dX2_keep_48
  · refine lv_iconst (v := (-1)) hx hb dX2_keep_7 (by decide) ?_
    exact rw_iret hx hb hr hS hlocks (io, ia, kept) (show s_X2_keep on asd io ia kept image = ((-1), io, ia, kept) from by (unfold s_X2_keep; (try dsimp only); (try rw [if_pos c_4_1]); first | done | rfl)).symm hP hD dX2_keep_8

def s_X2_back (on : Int32) (asd : Int32) (io : Nat → Int32) (ia : Nat → Int32) (kept : Int32) (image : Int32) : Int32 × Int32 × Int32 := (if (s_X2_isImage image) = 0 then ((-1), on, asd) else (if (s_X2_bitOf kept image) = 0 then ((-2), on, asd) else ((s_J6_bitCount_0f7a4 (io image.toNatClampNeg)), (io image.toNatClampNeg), (ia image.toNatClampNeg))))
set_option maxHeartbeats 4000000 in
set_option maxRecDepth 100000 in
theorem c_X2_back (l : Launch) (D : va_G) (h : Nat → Nat) (cA : Nat → ClassId) (n : Nat) (by_ : Nat → Int32) (ln : Int32) (pl : Int32) (tk : Int32) (tp : Int32) (may : Int32) (hd : Nat → Int32) (fi : Nat → Int32) (un : Nat → Int32) (sz2 : Int32) (may2 : Int32) (hd2 : Nat → Int32) (fi2 : Nat → Int32) (un2 : Nat → Int32) (on : Int32) (asd : Int32) (io : Nat → Int32) (ia : Nat → Int32) (kept : Int32) (tr : Int64) (image : Int32) (hn : n ≤ 10) (sz : Nat) : Met l yX2_back wsX2_back ({ frames := 1, cells := 0, slots := 0, locals := 21 }) (va_Pc [.ref (h 0), .int image] (cPre D (tX h cA) (wX h cA by_ ln pl tk tp (nI n) may hd fi un sz2 may2 hd2 fi2 un2 on asd io ia kept tr) sz)) (va_Qi (fun (r : Int32) (u : Int32 × Int32) => (r, u.1, u.2) = s_X2_back on asd io ia kept image) (rwB D (fun u : Int32 × Int32 => (wX h cA by_ ln pl tk tp (nI n) may hd fi un sz2 may2 hd2 fi2 un2 u.1 u.2 io ia kept tr)) (va_A (wX h cA by_ ln pl tk tp (nI n) may hd fi un sz2 may2 hd2 fi2 un2 on asd io ia kept tr) sz)) (va_A (wX h cA by_ ln pl tk tp (nI n) may hd fi un sz2 may2 hd2 fi2 un2 on asd io ia kept tr) sz)) 0 0 (va_A (wX h cA by_ ln pl tk tp (nI n) may hd fi un sz2 may2 hd2 fi2 un2 on asd io ia kept tr) sz) := by
  refine Met.ofW (cc := cX2_back) (maxL := 2) (ret := (some .int)) (by decide) rfl ?_
  intro p e s m args below meth c s₁ B hml hv
  obtain ⟨rfl, hsz, hP, hK, hD, hN⟩ := hv
  have hx := B.exec
  have hb := B.bytes
  have hr := B.returns
  have hts := atoms_spec (ws := wsX2_back) B.pre
  have hown : s.vm.findClass RX2 = some m.cls := findClass_of_methodNamed B.named
  have hlocks := B.notSynchronized
  have hinX2 : ∀ w ∈ wsX20, w ∈ wsX2_back := fun w h => List.mem_cons_of_mem _ (List.mem_append_right _ h)
  subst hsz
  replace hD := hD.self (sz := s.heap.size)
  generalize hAe : va_A (wX h cA by_ ln pl tk tp (nI n) may hd fi un sz2 may2 hd2 fi2 un2 on asd io ia kept tr) s.heap.size = A at hD ⊢
  have hA : ∀ q : Nat, s.heap.size ≤ q → A q := fun q h => by rw [← hAe]; exact Or.inr h
  have hS : va_S A s.heap s.heap [] := va_S.rf
  have hl := lv_entry ([.ref (h 0), .int image]) (n := 2) (Nat.le_of_ble_eq_true rfl)
  rw [lg_entry_eq]
  generalize (lg_sl ([.ref (h 0), .int image]) ++ List.replicate (2 - (lg_sl ([.ref (h 0), .int image])).length) Slot.unset).toArray = ls at hl ⊢
  replace hl : lv_has ls 2 [(0, .ref (h 0)), (1, .int image)] := hl
  have hKe := hK.sub (tys' := []) [] rfl
  refine lv_iload_n hx hb dX2_back_0 rfl (lv_at hl 1 rfl) ?_
  refine ro_i (D := D) (va_runS (As := [.int image]) (rest := []) ⟨hx, hb, hml, hown, hts⟩ (c_X2_isImage l D image  _) (va_cwS 1 hts gX2_back_X2_isImage rfl rfl rfl (by decide +kernel) ⟨Nat.le_of_ble_eq_true rfl, Nat.le_of_ble_eq_true rfl⟩) ⟨cPre.blind, cPre.mk vP0 hKe vD0 hN⟩ rfl rfl hl.1 rfl (lv_room (Nat.le_of_ble_eq_true rfl)) dX2_back_1 ⟨Nat.zero_le _, Nat.zero_le _⟩) hS hA (fun H locs hkp0 hS => ?_)
  replace hP := hkp0 _ hP
  refine lv_if_ne (tgt := 9) hx hb dX2_back_4 (by decide) (fun c_4_1 => ?_) (fun c_4_1 => ?_)
  · refine lv_aload_n hx hb dX2_back_9 rfl (lv_at hl 0 rfl) ?_
    refine va_get (D := D) (ci := 2) (v := .int kept) (C := RX2) (T := TX2) (N := 9) hx hb hts hinX2 hown hK hP 0 rfl rfl 7 (by decide) (hts (.fieldLink RX2 57 "HoldUnless" "imagesKept" "I") (by decide +kernel)) (fun _ h9 => h9) rfl dX2_back_10 ?_
    refine lv_iload_n hx hb dX2_back_13 rfl (lv_at hl 1 rfl) ?_
    refine ro_i (D := D) (va_runS (As := [.int kept, .int image]) (rest := []) ⟨hx, hb, hml, hown, hts⟩ (c_X2_bitOf l D kept image  _) (va_cwS 2 hts gX2_back_X2_bitOf rfl rfl rfl (by decide +kernel) ⟨Nat.le_of_ble_eq_true rfl, Nat.le_of_ble_eq_true rfl⟩) ⟨cPre.blind, cPre.mk vP0 hKe vD0 hN⟩ rfl rfl hl.1 rfl (lv_room (Nat.le_of_ble_eq_true rfl)) dX2_back_14 ⟨Nat.zero_le _, Nat.zero_le _⟩) hS hA (fun H locs hkp0 hS => ?_)
    replace hP := hkp0 _ hP
    refine lv_if_ne (tgt := 23) hx hb dX2_back_17 (by decide) (fun c_17_2 => ?_) (fun c_17_2 => ?_)
    · refine lv_aload_n hx hb dX2_back_23 rfl (lv_at hl 0 rfl) ?_
      refine lv_aload_n hx hb dX2_back_24 rfl (lv_at hl 0 rfl) ?_
      refine va_get (D := D) (ci := 2) (v := .ref (h 11)) (C := RX2) (T := TX2) (N := 9) hx hb hts hinX2 hown hK hP 0 rfl rfl 5 (by decide) (hts (.fieldLink RX2 26 "HoldUnless" "imageOn" "[I") (by decide +kernel)) (fun _ h9 => h9) rfl dX2_back_25 ?_
      refine lv_iload_n hx hb dX2_back_28 rfl (lv_at hl 1 rfl) ?_
      refine va_iald hx hb hK hP 11 7 rfl rfl ((vp_image c_4_1)) dX2_back_29 ?_
      refine va_put (D := D) (ci := 2) (v := .int (io image.toNatClampNeg)) (ty := .int) (C := RX2) (T := TX2) (N := 9) hx hb hts hinX2 tyX2 tyX2_ok nmX2 hown hK hP hD hS 0 rfl rfl 3 (by decide) (hts (.fieldLink RX2 51 "HoldUnless" "on" "I") (by decide +kernel)) (fun _ h9 => h9) rfl (by decide +kernel) rfl rfl (Nat.le_of_ble_eq_true rfl) dX2_back_30 (fun H locs hP hD hS => ?_)
      replace hP : va_P D vwCl (wX h cA by_ ln pl tk tp (nI n) may hd fi un sz2 may2 hd2 fi2 un2 (io image.toNatClampNeg) asd io ia kept tr) H := hP
      replace hD : va_D A (wX h cA by_ ln pl tk tp (nI n) may hd fi un sz2 may2 hd2 fi2 un2 (io image.toNatClampNeg) asd io ia kept tr) := hD
      refine lv_aload_n hx hb dX2_back_33 rfl (lv_at hl 0 rfl) ?_
      refine lv_aload_n hx hb dX2_back_34 rfl (lv_at hl 0 rfl) ?_
      refine va_get (D := D) (ci := 2) (v := .ref (h 12)) (C := RX2) (T := TX2) (N := 9) hx hb hts hinX2 hown hK hP 0 rfl rfl 6 (by decide) (hts (.fieldLink RX2 30 "HoldUnless" "imageAssumed" "[I") (by decide +kernel)) (fun _ h9 => h9) rfl dX2_back_35 ?_
      refine lv_iload_n hx hb dX2_back_38 rfl (lv_at hl 1 rfl) ?_
      refine va_iald hx hb hK hP 12 8 rfl rfl ((vp_image c_4_1)) dX2_back_39 ?_
      refine va_put (D := D) (ci := 2) (v := .int (ia image.toNatClampNeg)) (ty := .int) (C := RX2) (T := TX2) (N := 9) hx hb hts hinX2 tyX2 tyX2_ok nmX2 hown hK hP hD hS 0 rfl rfl 4 (by decide) (hts (.fieldLink RX2 54 "HoldUnless" "assumed" "I") (by decide +kernel)) (fun _ h9 => h9) rfl (by decide +kernel) rfl rfl (Nat.le_of_ble_eq_true rfl) dX2_back_40 (fun H locs hP hD hS => ?_)
      replace hP : va_P D vwCl (wX h cA by_ ln pl tk tp (nI n) may hd fi un sz2 may2 hd2 fi2 un2 (io image.toNatClampNeg) (ia image.toNatClampNeg) io ia kept tr) H := hP
      replace hD : va_D A (wX h cA by_ ln pl tk tp (nI n) may hd fi un sz2 may2 hd2 fi2 un2 (io image.toNatClampNeg) (ia image.toNatClampNeg) io ia kept tr) := hD
      refine lv_aload_n hx hb dX2_back_43 rfl (lv_at hl 0 rfl) ?_
      refine va_get (D := D) (ci := 2) (v := .int (io image.toNatClampNeg)) (C := RX2) (T := TX2) (N := 9) hx hb hts hinX2 hown hK hP 0 rfl rfl 3 (by decide) (hts (.fieldLink RX2 51 "HoldUnless" "on" "I") (by decide +kernel)) (fun _ h9 => h9) rfl dX2_back_44 ?_
      refine ro_i (D := D) (va_runS (As := [.int (io image.toNatClampNeg)]) (rest := []) ⟨hx, hb, hml, hown, hts⟩ (c_J6_bitCount_0f7a4 l D (io image.toNatClampNeg)  _) (va_cwS 1 hts gX2_back_J6_bitCount_0f7a4 rfl rfl rfl (by decide +kernel) ⟨Nat.le_of_ble_eq_true rfl, Nat.le_of_ble_eq_true rfl⟩) ⟨cPre.blind, cPre.mk vP0 hKe vD0 hN⟩ rfl rfl hl.1 rfl (lv_room (Nat.le_of_ble_eq_true rfl)) dX2_back_47 ⟨Nat.zero_le _, Nat.zero_le _⟩) hS hA (fun H locs hkp0 hS => ?_)
      replace hP := hkp0 _ hP
      exact rw_iret hx hb hr hS hlocks ((io image.toNatClampNeg), (ia image.toNatClampNeg)) (show s_X2_back on asd io ia kept image = ((s_J6_bitCount_0f7a4 (io image.toNatClampNeg)), (io image.toNatClampNeg), (ia image.toNatClampNeg)) from by (unfold s_X2_back; (try dsimp only); (try rw [if_neg c_4_1]); (try rw [if_neg c_17_2]); first | done | rfl)).symm hP hD dX2_back_50
    · refine lv_bipush (v := (-2)) hx hb dX2_back_20 (by decide) ?_
      exact rw_iret hx hb hr hS hlocks (on, asd) (show s_X2_back on asd io ia kept image = ((-2), on, asd) from by (unfold s_X2_back; (try dsimp only); (try rw [if_neg c_4_1]); (try rw [if_pos c_17_2]); first | done | rfl)).symm hP hD dX2_back_22
  · refine lv_iconst (v := (-1)) hx hb dX2_back_7 (by decide) ?_
    exact rw_iret hx hb hr hS hlocks (on, asd) (show s_X2_back on asd io ia kept image = ((-1), on, asd) from by (unfold s_X2_back; (try dsimp only); (try rw [if_pos c_4_1]); first | done | rfl)).symm hP hD dX2_back_8

def s_X2_markOfRule (fi : Nat → Int32) (un : Nat → Int32) (tr : Int64) (k : Int32) : Int32 × Int64 := (((s_J6_bitCount_0f7a4 (fi k.toNatClampNeg)) + (s_J6_bitCount_0f7a4 (un k.toNatClampNeg))), (tr + 1))
set_option maxHeartbeats 4000000 in
set_option maxRecDepth 100000 in
theorem c_X2_markOfRule (l : Launch) (D : va_G) (h : Nat → Nat) (cA : Nat → ClassId) (n : Nat) (by_ : Nat → Int32) (ln : Int32) (pl : Int32) (tk : Int32) (tp : Int32) (may : Int32) (hd : Nat → Int32) (fi : Nat → Int32) (un : Nat → Int32) (sz2 : Int32) (may2 : Int32) (hd2 : Nat → Int32) (fi2 : Nat → Int32) (un2 : Nat → Int32) (on : Int32) (asd : Int32) (io : Nat → Int32) (ia : Nat → Int32) (kept : Int32) (tr : Int64) (k : Int32) (hn : n ≤ 10) (hk : vp_in k 10) (sz : Nat) : Met l yX2_markOfRule wsX2_markOfRule ({ frames := 1, cells := 0, slots := 0, locals := 20 }) (va_Pc [.ref (h 0), .int k] (cPre D (tX h cA) (wX h cA by_ ln pl tk tp (nI n) may hd fi un sz2 may2 hd2 fi2 un2 on asd io ia kept tr) sz)) (va_Qi (fun (r : Int32) (u : Int64) => (r, u) = s_X2_markOfRule fi un tr k) (rwB D (fun u : Int64 => (wX h cA by_ ln pl tk tp (nI n) may hd fi un sz2 may2 hd2 fi2 un2 on asd io ia kept u)) (va_A (wX h cA by_ ln pl tk tp (nI n) may hd fi un sz2 may2 hd2 fi2 un2 on asd io ia kept tr) sz)) (va_A (wX h cA by_ ln pl tk tp (nI n) may hd fi un sz2 may2 hd2 fi2 un2 on asd io ia kept tr) sz)) 0 0 (va_A (wX h cA by_ ln pl tk tp (nI n) may hd fi un sz2 may2 hd2 fi2 un2 on asd io ia kept tr) sz) := by
  refine Met.ofW (cc := cX2_markOfRule) (maxL := 2) (ret := (some .int)) (by decide) rfl ?_
  intro p e s m args below meth c s₁ B hml hv
  obtain ⟨rfl, hsz, hP, hK, hD, hN⟩ := hv
  have hx := B.exec
  have hb := B.bytes
  have hr := B.returns
  have hts := atoms_spec (ws := wsX2_markOfRule) B.pre
  have hown : s.vm.findClass RX2 = some m.cls := findClass_of_methodNamed B.named
  have hlocks := B.notSynchronized
  have hinX0 : ∀ w ∈ wsX00, w ∈ wsX2_markOfRule := fun w h => List.mem_cons_of_mem _ (List.mem_append_right _ h)
  have hinX2 : ∀ w ∈ wsX20, w ∈ wsX2_markOfRule := fun w h => List.mem_cons_of_mem _ (List.mem_append_left _ (List.mem_append_right _ h))
  subst hsz
  replace hD := hD.self (sz := s.heap.size)
  generalize hAe : va_A (wX h cA by_ ln pl tk tp (nI n) may hd fi un sz2 may2 hd2 fi2 un2 on asd io ia kept tr) s.heap.size = A at hD ⊢
  have hA : ∀ q : Nat, s.heap.size ≤ q → A q := fun q h => by rw [← hAe]; exact Or.inr h
  have hS : va_S A s.heap s.heap [] := va_S.rf
  have hl := lv_entry ([.ref (h 0), .int k]) (n := 2) (Nat.le_of_ble_eq_true rfl)
  rw [lg_entry_eq]
  generalize (lg_sl ([.ref (h 0), .int k]) ++ List.replicate (2 - (lg_sl ([.ref (h 0), .int k])).length) Slot.unset).toArray = ls at hl ⊢
  replace hl : lv_has ls 2 [(0, .ref (h 0)), (1, .int k)] := hl
  have hKe := hK.sub (tys' := []) [] rfl
  refine lv_aload_n hx hb dX2_markOfRule_0 rfl (lv_at hl 0 rfl) ?_
  refine lv_dup hx hb dX2_markOfRule_1 rfl ?_
  refine va_get (D := D) (ci := 2) (v := .long tr) (C := RX2) (T := TX2) (N := 9) hx hb hts hinX2 hown hK hP 0 rfl rfl 8 (by decide) (hts (.fieldLink RX2 157 "HoldUnless" "traceSum" "J") (by decide +kernel)) (fun _ h9 => h9) rfl dX2_markOfRule_2 ?_
  refine lv_lconst (v := 1) hx hb dX2_markOfRule_5 (by decide) ?_
  refine lv_ladd hx hb dX2_markOfRule_6 ?_
  refine va_put (D := D) (ci := 2) (v := .long (tr + 1)) (ty := .long) (C := RX2) (T := TX2) (N := 9) hx hb hts hinX2 tyX2 tyX2_ok nmX2 hown hK hP hD hS 0 rfl rfl 8 (by decide) (hts (.fieldLink RX2 157 "HoldUnless" "traceSum" "J") (by decide +kernel)) (fun _ h9 => h9) rfl (by decide +kernel) rfl rfl (Nat.le_of_ble_eq_true rfl) dX2_markOfRule_7 (fun H locs hP hD hS => ?_)
  replace hP : va_P D vwCl (wX h cA by_ ln pl tk tp (nI n) may hd fi un sz2 may2 hd2 fi2 un2 on asd io ia kept (tr + 1)) H := hP
  replace hD : va_D A (wX h cA by_ ln pl tk tp (nI n) may hd fi un sz2 may2 hd2 fi2 un2 on asd io ia kept (tr + 1)) := hD
  refine lv_aload_n hx hb dX2_markOfRule_10 rfl (lv_at hl 0 rfl) ?_
  refine va_get (D := D) (ci := 2) (v := .ref (h 3)) (C := RX2) (T := TX2) (N := 9) hx hb hts hinX2 hown hK hP 0 rfl rfl 1 (by decide) (hts (.fieldLink RX2 19 "HoldUnless" "book" "LHoldUnless$RuleBook;") (by decide +kernel)) (fun _ h9 => h9) rfl dX2_markOfRule_11 ?_
  refine va_getN (D := D) (ci := 0) (v := .ref (h 5)) (C := RX0) (T := TX0) (N := 5) hx hb hts hinX0 hown hK hP 3 rfl rfl 3 (by decide) (hN.use 22 rfl) (fun _ h9 => h9) rfl dX2_markOfRule_14 ?_
  refine lv_iload_n hx hb dX2_markOfRule_17 rfl (lv_at hl 1 rfl) ?_
  refine va_iald hx hb hK hP 5 2 rfl rfl (hk) dX2_markOfRule_18 ?_
  refine ro_i (D := D) (va_runS (As := [.int (fi k.toNatClampNeg)]) (rest := []) ⟨hx, hb, hml, hown, hts⟩ (c_J6_bitCount_0f7a4 l D (fi k.toNatClampNeg)  _) (va_cwS 1 hts gX2_markOfRule_J6_bitCount_0f7a4 rfl rfl rfl (by decide +kernel) ⟨Nat.le_of_ble_eq_true rfl, Nat.le_of_ble_eq_true rfl⟩) ⟨cPre.blind, cPre.mk vP0 hKe vD0 hN⟩ rfl rfl hl.1 rfl (lv_room (Nat.le_of_ble_eq_true rfl)) dX2_markOfRule_19 ⟨Nat.zero_le _, Nat.zero_le _⟩) hS hA (fun H locs hkp0 hS => ?_)
  replace hP := hkp0 _ hP
  refine lv_aload_n hx hb dX2_markOfRule_22 rfl (lv_at hl 0 rfl) ?_
  refine va_get (D := D) (ci := 2) (v := .ref (h 3)) (C := RX2) (T := TX2) (N := 9) hx hb hts hinX2 hown hK hP 0 rfl rfl 1 (by decide) (hts (.fieldLink RX2 19 "HoldUnless" "book" "LHoldUnless$RuleBook;") (by decide +kernel)) (fun _ h9 => h9) rfl dX2_markOfRule_23 ?_
  refine va_getN (D := D) (ci := 0) (v := .ref (h 6)) (C := RX0) (T := TX0) (N := 5) hx hb hts hinX0 hown hK hP 3 rfl rfl 4 (by decide) (hN.use 23 rfl) (fun _ h9 => h9) rfl dX2_markOfRule_26 ?_
  refine lv_iload_n hx hb dX2_markOfRule_29 rfl (lv_at hl 1 rfl) ?_
  refine va_iald hx hb hK hP 6 3 rfl rfl (hk) dX2_markOfRule_30 ?_
  refine ro_i (D := D) (va_runS (As := [.int (un k.toNatClampNeg)]) (rest := [.int (s_J6_bitCount_0f7a4 (fi k.toNatClampNeg))]) ⟨hx, hb, hml, hown, hts⟩ (c_J6_bitCount_0f7a4 l D (un k.toNatClampNeg)  _) (va_cwS 1 hts gX2_markOfRule_J6_bitCount_0f7a4 rfl rfl rfl (by decide +kernel) ⟨Nat.le_of_ble_eq_true rfl, Nat.le_of_ble_eq_true rfl⟩) ⟨cPre.blind, cPre.mk vP0 hKe vD0 hN⟩ rfl rfl hl.1 rfl (lv_room (Nat.le_of_ble_eq_true rfl)) dX2_markOfRule_31 ⟨Nat.zero_le _, Nat.zero_le _⟩) hS hA (fun H locs hkp0 hS => ?_)
  replace hP := hkp0 _ hP
  refine lv_iadd hx hb dX2_markOfRule_34 ?_
  exact rw_iret hx hb hr hS hlocks (tr + 1) (show s_X2_markOfRule fi un tr k = (((s_J6_bitCount_0f7a4 (fi k.toNatClampNeg)) + (s_J6_bitCount_0f7a4 (un k.toNatClampNeg))), (tr + 1)) from by (unfold s_X2_markOfRule; (try dsimp only); first | done | rfl)).symm hP hD dX2_markOfRule_35

def s_X2_markOfLaw (fi : Nat → Int32) (un : Nat → Int32) (tr : Int64) (k : Int32) : Int32 × Int64 := (match s_X2_markOfRule fi un (tr + 10) k with | (rv_2, trv_1) => ((rv_2 * 2), trv_1))
set_option maxHeartbeats 4000000 in
set_option maxRecDepth 100000 in
theorem c_X2_markOfLaw (l : Launch) (D : va_G) (h : Nat → Nat) (cA : Nat → ClassId) (n : Nat) (by_ : Nat → Int32) (ln : Int32) (pl : Int32) (tk : Int32) (tp : Int32) (may : Int32) (hd : Nat → Int32) (fi : Nat → Int32) (un : Nat → Int32) (sz2 : Int32) (may2 : Int32) (hd2 : Nat → Int32) (fi2 : Nat → Int32) (un2 : Nat → Int32) (on : Int32) (asd : Int32) (io : Nat → Int32) (ia : Nat → Int32) (kept : Int32) (tr : Int64) (k : Int32) (hn : n ≤ 10) (hk : vp_in k 10) (sz : Nat) : Met l yX2_markOfLaw wsX2_markOfLaw ({ frames := 2, cells := 0, slots := 0, locals := 41 }) (va_Pc [.ref (h 0), .int k] (cPre D (tX h cA) (wX h cA by_ ln pl tk tp (nI n) may hd fi un sz2 may2 hd2 fi2 un2 on asd io ia kept tr) sz)) (va_Qi (fun (r : Int32) (u : Int64) => (r, u) = s_X2_markOfLaw fi un tr k) (rwB D (fun u : Int64 => (wX h cA by_ ln pl tk tp (nI n) may hd fi un sz2 may2 hd2 fi2 un2 on asd io ia kept u)) (va_A (wX h cA by_ ln pl tk tp (nI n) may hd fi un sz2 may2 hd2 fi2 un2 on asd io ia kept tr) sz)) (va_A (wX h cA by_ ln pl tk tp (nI n) may hd fi un sz2 may2 hd2 fi2 un2 on asd io ia kept tr) sz)) 0 0 (va_A (wX h cA by_ ln pl tk tp (nI n) may hd fi un sz2 may2 hd2 fi2 un2 on asd io ia kept tr) sz) := by
  refine Met.ofW (cc := cX2_markOfLaw) (maxL := 2) (ret := (some .int)) (by decide) rfl ?_
  intro p e s m args below meth c s₁ B hml hv
  obtain ⟨rfl, hsz, hP, hK, hD, hN⟩ := hv
  have hx := B.exec
  have hb := B.bytes
  have hr := B.returns
  have hts := atoms_spec (ws := wsX2_markOfLaw) B.pre
  have hown : s.vm.findClass RX2 = some m.cls := findClass_of_methodNamed B.named
  have hlocks := B.notSynchronized
  have hinX2 : ∀ w ∈ wsX20, w ∈ wsX2_markOfLaw := fun w h => List.mem_cons_of_mem _ (List.mem_append_left _ (List.mem_append_right _ h))
  subst hsz
  replace hD := hD.self (sz := s.heap.size)
  generalize hAe : va_A (wX h cA by_ ln pl tk tp (nI n) may hd fi un sz2 may2 hd2 fi2 un2 on asd io ia kept tr) s.heap.size = A at hD ⊢
  have hA : ∀ q : Nat, s.heap.size ≤ q → A q := fun q h => by rw [← hAe]; exact Or.inr h
  have hS : va_S A s.heap s.heap [] := va_S.rf
  have hl := lv_entry ([.ref (h 0), .int k]) (n := 2) (Nat.le_of_ble_eq_true rfl)
  rw [lg_entry_eq]
  generalize (lg_sl ([.ref (h 0), .int k]) ++ List.replicate (2 - (lg_sl ([.ref (h 0), .int k])).length) Slot.unset).toArray = ls at hl ⊢
  replace hl : lv_has ls 2 [(0, .ref (h 0)), (1, .int k)] := hl
  have hKe := hK.sub (tys' := []) [] rfl
  refine lv_aload_n hx hb dX2_markOfLaw_0 rfl (lv_at hl 0 rfl) ?_
  refine lv_dup hx hb dX2_markOfLaw_1 rfl ?_
  refine va_get (D := D) (ci := 2) (v := .long tr) (C := RX2) (T := TX2) (N := 9) hx hb hts hinX2 hown hK hP 0 rfl rfl 8 (by decide) (hts (.fieldLink RX2 157 "HoldUnless" "traceSum" "J") (by decide +kernel)) (fun _ h9 => h9) rfl dX2_markOfLaw_2 ?_
  refine lv_ldc2 (v := 10) hx hb hown (hts (.constantLong RX2 161 (10)) (by decide +kernel)) dX2_markOfLaw_5 ?_
  refine lv_ladd hx hb dX2_markOfLaw_8 ?_
  refine va_put (D := D) (ci := 2) (v := .long (tr + 10)) (ty := .long) (C := RX2) (T := TX2) (N := 9) hx hb hts hinX2 tyX2 tyX2_ok nmX2 hown hK hP hD hS 0 rfl rfl 8 (by decide) (hts (.fieldLink RX2 157 "HoldUnless" "traceSum" "J") (by decide +kernel)) (fun _ h9 => h9) rfl (by decide +kernel) rfl rfl (Nat.le_of_ble_eq_true rfl) dX2_markOfLaw_9 (fun H locs hP hD hS => ?_)
  replace hP : va_P D vwCl (wX h cA by_ ln pl tk tp (nI n) may hd fi un sz2 may2 hd2 fi2 un2 on asd io ia kept (tr + 10)) H := hP
  replace hD : va_D A (wX h cA by_ ln pl tk tp (nI n) may hd fi un sz2 may2 hd2 fi2 un2 on asd io ia kept (tr + 10)) := hD
  refine lv_aload_n hx hb dX2_markOfLaw_12 rfl (lv_at hl 0 rfl) ?_
  refine lv_iload_n hx hb dX2_markOfLaw_13 rfl (lv_at hl 1 rfl) ?_
  have hFc := va_free (wc := (wX h cA by_ ln pl tk tp (nI n) may hd fi un sz2 may2 hd2 fi2 un2 on asd io ia kept (tr + 10))) hD hS hA [0, 1, 2, 3, 4, 5, 6, 7, 8, 9, 10, 11, 12] rfl
  refine rw_i (D := D) (wc := (wX h cA by_ ln pl tk tp (nI n) may hd fi un sz2 may2 hd2 fi2 un2 on asd io ia kept (tr + 10))) (va_runV (As := [.int k]) (rest := []) ⟨hx, hb, hml, hown, hts⟩ (c_X2_markOfRule l D h cA n by_ ln pl tk tp may hd fi un sz2 may2 hd2 fi2 un2 on asd io ia kept (tr + 10) k (by first | assumption | omega) (by first | assumption | omega) _) (cwV 1 hts gX2_markOfLaw_X2_markOfRule rfl rfl rfl (by decide +kernel) ⟨Nat.le_of_ble_eq_true rfl, Nat.le_of_ble_eq_true rfl⟩) ⟨cPre.blind, va_recv hK hP (ci := 2) (q0 := 0) rfl rfl, cPre.mk hP hK hD hN⟩ rfl rfl hl.1 rfl (lv_room (Nat.le_of_ble_eq_true rfl)) dX2_markOfLaw_14 ⟨Nat.zero_le _, Nat.zero_le _⟩) hS hFc (fun rv_2 u H1 locs hw_3 hP1 hD1 hk1 hS => ?_)
  obtain ⟨trv_1, rfl⟩ : ∃ y, y = u := ⟨_, rfl⟩
  try dsimp only at hw_3
  have hP : va_P D vwCl (wX h cA by_ ln pl tk tp (nI n) may hd fi un sz2 may2 hd2 fi2 un2 on asd io ia kept trv_1) H1 := hP1
  have hD : va_D A (wX h cA by_ ln pl tk tp (nI n) may hd fi un sz2 may2 hd2 fi2 un2 on asd io ia kept trv_1) := hD1.weaken (fun k q hk h => hFc _ h)
  clear hP1 hD1 hFc hk1
  generalize H1 = H at hP hS ⊢
  refine lv_iconst (v := 2) hx hb dX2_markOfLaw_17 (by decide) ?_
  refine lv_imul hx hb dX2_markOfLaw_18 ?_
  exact rw_iret hx hb hr hS hlocks trv_1 (show s_X2_markOfLaw fi un tr k = ((rv_2 * 2), trv_1) from by (unfold s_X2_markOfLaw; (try dsimp only); (try rw [← hw_3]); (try dsimp only); first | done | rfl)).symm hP hD dX2_markOfLaw_19

def s_X2_markOfHabit (fi : Nat → Int32) (un : Nat → Int32) (tr : Int64) (k : Int32) : Int32 × Int64 := (match s_X2_markOfRule fi un (tr + 100) k with | (rv_2, trv_1) => ((rv_2 - (s_J6_bitCount_0f7a4 (un k.toNatClampNeg))), trv_1))
set_option maxHeartbeats 4000000 in
set_option maxRecDepth 100000 in
theorem c_X2_markOfHabit (l : Launch) (D : va_G) (h : Nat → Nat) (cA : Nat → ClassId) (n : Nat) (by_ : Nat → Int32) (ln : Int32) (pl : Int32) (tk : Int32) (tp : Int32) (may : Int32) (hd : Nat → Int32) (fi : Nat → Int32) (un : Nat → Int32) (sz2 : Int32) (may2 : Int32) (hd2 : Nat → Int32) (fi2 : Nat → Int32) (un2 : Nat → Int32) (on : Int32) (asd : Int32) (io : Nat → Int32) (ia : Nat → Int32) (kept : Int32) (tr : Int64) (k : Int32) (hn : n ≤ 10) (hk : vp_in k 10) (sz : Nat) : Met l yX2_markOfHabit wsX2_markOfHabit ({ frames := 2, cells := 0, slots := 0, locals := 41 }) (va_Pc [.ref (h 0), .int k] (cPre D (tX h cA) (wX h cA by_ ln pl tk tp (nI n) may hd fi un sz2 may2 hd2 fi2 un2 on asd io ia kept tr) sz)) (va_Qi (fun (r : Int32) (u : Int64) => (r, u) = s_X2_markOfHabit fi un tr k) (rwB D (fun u : Int64 => (wX h cA by_ ln pl tk tp (nI n) may hd fi un sz2 may2 hd2 fi2 un2 on asd io ia kept u)) (va_A (wX h cA by_ ln pl tk tp (nI n) may hd fi un sz2 may2 hd2 fi2 un2 on asd io ia kept tr) sz)) (va_A (wX h cA by_ ln pl tk tp (nI n) may hd fi un sz2 may2 hd2 fi2 un2 on asd io ia kept tr) sz)) 0 0 (va_A (wX h cA by_ ln pl tk tp (nI n) may hd fi un sz2 may2 hd2 fi2 un2 on asd io ia kept tr) sz) := by
  refine Met.ofW (cc := cX2_markOfHabit) (maxL := 2) (ret := (some .int)) (by decide) rfl ?_
  intro p e s m args below meth c s₁ B hml hv
  obtain ⟨rfl, hsz, hP, hK, hD, hN⟩ := hv
  have hx := B.exec
  have hb := B.bytes
  have hr := B.returns
  have hts := atoms_spec (ws := wsX2_markOfHabit) B.pre
  have hown : s.vm.findClass RX2 = some m.cls := findClass_of_methodNamed B.named
  have hlocks := B.notSynchronized
  have hinX0 : ∀ w ∈ wsX00, w ∈ wsX2_markOfHabit := fun w h => List.mem_cons_of_mem _ (List.mem_append_right _ h)
  have hinX2 : ∀ w ∈ wsX20, w ∈ wsX2_markOfHabit := fun w h => List.mem_cons_of_mem _ (List.mem_append_left _ (List.mem_append_right _ h))
  subst hsz
  replace hD := hD.self (sz := s.heap.size)
  generalize hAe : va_A (wX h cA by_ ln pl tk tp (nI n) may hd fi un sz2 may2 hd2 fi2 un2 on asd io ia kept tr) s.heap.size = A at hD ⊢
  have hA : ∀ q : Nat, s.heap.size ≤ q → A q := fun q h => by rw [← hAe]; exact Or.inr h
  have hS : va_S A s.heap s.heap [] := va_S.rf
  have hl := lv_entry ([.ref (h 0), .int k]) (n := 2) (Nat.le_of_ble_eq_true rfl)
  rw [lg_entry_eq]
  generalize (lg_sl ([.ref (h 0), .int k]) ++ List.replicate (2 - (lg_sl ([.ref (h 0), .int k])).length) Slot.unset).toArray = ls at hl ⊢
  replace hl : lv_has ls 2 [(0, .ref (h 0)), (1, .int k)] := hl
  have hKe := hK.sub (tys' := []) [] rfl
  refine lv_aload_n hx hb dX2_markOfHabit_0 rfl (lv_at hl 0 rfl) ?_
  refine lv_dup hx hb dX2_markOfHabit_1 rfl ?_
  refine va_get (D := D) (ci := 2) (v := .long tr) (C := RX2) (T := TX2) (N := 9) hx hb hts hinX2 hown hK hP 0 rfl rfl 8 (by decide) (hts (.fieldLink RX2 157 "HoldUnless" "traceSum" "J") (by decide +kernel)) (fun _ h9 => h9) rfl dX2_markOfHabit_2 ?_
  refine lv_ldc2 (v := 100) hx hb hown (hts (.constantLong RX2 163 (100)) (by decide +kernel)) dX2_markOfHabit_5 ?_
  refine lv_ladd hx hb dX2_markOfHabit_8 ?_
  refine va_put (D := D) (ci := 2) (v := .long (tr + 100)) (ty := .long) (C := RX2) (T := TX2) (N := 9) hx hb hts hinX2 tyX2 tyX2_ok nmX2 hown hK hP hD hS 0 rfl rfl 8 (by decide) (hts (.fieldLink RX2 157 "HoldUnless" "traceSum" "J") (by decide +kernel)) (fun _ h9 => h9) rfl (by decide +kernel) rfl rfl (Nat.le_of_ble_eq_true rfl) dX2_markOfHabit_9 (fun H locs hP hD hS => ?_)
  replace hP : va_P D vwCl (wX h cA by_ ln pl tk tp (nI n) may hd fi un sz2 may2 hd2 fi2 un2 on asd io ia kept (tr + 100)) H := hP
  replace hD : va_D A (wX h cA by_ ln pl tk tp (nI n) may hd fi un sz2 may2 hd2 fi2 un2 on asd io ia kept (tr + 100)) := hD
  refine lv_aload_n hx hb dX2_markOfHabit_12 rfl (lv_at hl 0 rfl) ?_
  refine lv_iload_n hx hb dX2_markOfHabit_13 rfl (lv_at hl 1 rfl) ?_
  have hFc := va_free (wc := (wX h cA by_ ln pl tk tp (nI n) may hd fi un sz2 may2 hd2 fi2 un2 on asd io ia kept (tr + 100))) hD hS hA [0, 1, 2, 3, 4, 5, 6, 7, 8, 9, 10, 11, 12] rfl
  refine rw_i (D := D) (wc := (wX h cA by_ ln pl tk tp (nI n) may hd fi un sz2 may2 hd2 fi2 un2 on asd io ia kept (tr + 100))) (va_runV (As := [.int k]) (rest := []) ⟨hx, hb, hml, hown, hts⟩ (c_X2_markOfRule l D h cA n by_ ln pl tk tp may hd fi un sz2 may2 hd2 fi2 un2 on asd io ia kept (tr + 100) k (by first | assumption | omega) (by first | assumption | omega) _) (cwV 1 hts gX2_markOfHabit_X2_markOfRule rfl rfl rfl (by decide +kernel) ⟨Nat.le_of_ble_eq_true rfl, Nat.le_of_ble_eq_true rfl⟩) ⟨cPre.blind, va_recv hK hP (ci := 2) (q0 := 0) rfl rfl, cPre.mk hP hK hD hN⟩ rfl rfl hl.1 rfl (lv_room (Nat.le_of_ble_eq_true rfl)) dX2_markOfHabit_14 ⟨Nat.zero_le _, Nat.zero_le _⟩) hS hFc (fun rv_2 u H1 locs hw_3 hP1 hD1 hk1 hS => ?_)
  obtain ⟨trv_1, rfl⟩ : ∃ y, y = u := ⟨_, rfl⟩
  try dsimp only at hw_3
  have hP : va_P D vwCl (wX h cA by_ ln pl tk tp (nI n) may hd fi un sz2 may2 hd2 fi2 un2 on asd io ia kept trv_1) H1 := hP1
  have hD : va_D A (wX h cA by_ ln pl tk tp (nI n) may hd fi un sz2 may2 hd2 fi2 un2 on asd io ia kept trv_1) := hD1.weaken (fun k q hk h => hFc _ h)
  clear hP1 hD1 hFc hk1
  generalize H1 = H at hP hS ⊢
  refine lv_aload_n hx hb dX2_markOfHabit_17 rfl (lv_at hl 0 rfl) ?_
  refine va_get (D := D) (ci := 2) (v := .ref (h 3)) (C := RX2) (T := TX2) (N := 9) hx hb hts hinX2 hown hK hP 0 rfl rfl 1 (by decide) (hts (.fieldLink RX2 19 "HoldUnless" "book" "LHoldUnless$RuleBook;") (by decide +kernel)) (fun _ h9 => h9) rfl dX2_markOfHabit_18 ?_
  refine va_getN (D := D) (ci := 0) (v := .ref (h 6)) (C := RX0) (T := TX0) (N := 5) hx hb hts hinX0 hown hK hP 3 rfl rfl 4 (by decide) (hN.use 23 rfl) (fun _ h9 => h9) rfl dX2_markOfHabit_21 ?_
  refine lv_iload_n hx hb dX2_markOfHabit_24 rfl (lv_at hl 1 rfl) ?_
  refine va_iald hx hb hK hP 6 3 rfl rfl (hk) dX2_markOfHabit_25 ?_
  refine ro_i (D := D) (va_runS (As := [.int (un k.toNatClampNeg)]) (rest := [.int rv_2]) ⟨hx, hb, hml, hown, hts⟩ (c_J6_bitCount_0f7a4 l D (un k.toNatClampNeg)  _) (va_cwS 1 hts gX2_markOfHabit_J6_bitCount_0f7a4 rfl rfl rfl (by decide +kernel) ⟨Nat.le_of_ble_eq_true rfl, Nat.le_of_ble_eq_true rfl⟩) ⟨cPre.blind, cPre.mk vP0 hKe vD0 hN⟩ rfl rfl hl.1 rfl (lv_room (Nat.le_of_ble_eq_true rfl)) dX2_markOfHabit_26 ⟨Nat.zero_le _, Nat.zero_le _⟩) hS hA (fun H locs hkp0 hS => ?_)
  replace hP := hkp0 _ hP
  refine lv_isub hx hb dX2_markOfHabit_29 ?_
  exact rw_iret hx hb hr hS hlocks trv_1 (show s_X2_markOfHabit fi un tr k = ((rv_2 - (s_J6_bitCount_0f7a4 (un k.toNatClampNeg))), trv_1) from by (unfold s_X2_markOfHabit; (try dsimp only); (try rw [← hw_3]); (try dsimp only); first | done | rfl)).symm hP hD dX2_markOfHabit_30

def s_X2_markOfDecree (fi : Nat → Int32) (un : Nat → Int32) (tr : Int64) (k : Int32) : Int32 × Int64 := (match s_X2_markOfLaw fi un (tr + 1000) k with | (rv_2, trv_1) => ((rv_2 + k), trv_1))
set_option maxHeartbeats 4000000 in
set_option maxRecDepth 100000 in
theorem c_X2_markOfDecree (l : Launch) (D : va_G) (h : Nat → Nat) (cA : Nat → ClassId) (n : Nat) (by_ : Nat → Int32) (ln : Int32) (pl : Int32) (tk : Int32) (tp : Int32) (may : Int32) (hd : Nat → Int32) (fi : Nat → Int32) (un : Nat → Int32) (sz2 : Int32) (may2 : Int32) (hd2 : Nat → Int32) (fi2 : Nat → Int32) (un2 : Nat → Int32) (on : Int32) (asd : Int32) (io : Nat → Int32) (ia : Nat → Int32) (kept : Int32) (tr : Int64) (k : Int32) (hn : n ≤ 10) (hk : vp_in k 10) (sz : Nat) : Met l yX2_markOfDecree wsX2_markOfDecree ({ frames := 3, cells := 0, slots := 0, locals := 62 }) (va_Pc [.ref (h 0), .int k] (cPre D (tX h cA) (wX h cA by_ ln pl tk tp (nI n) may hd fi un sz2 may2 hd2 fi2 un2 on asd io ia kept tr) sz)) (va_Qi (fun (r : Int32) (u : Int64) => (r, u) = s_X2_markOfDecree fi un tr k) (rwB D (fun u : Int64 => (wX h cA by_ ln pl tk tp (nI n) may hd fi un sz2 may2 hd2 fi2 un2 on asd io ia kept u)) (va_A (wX h cA by_ ln pl tk tp (nI n) may hd fi un sz2 may2 hd2 fi2 un2 on asd io ia kept tr) sz)) (va_A (wX h cA by_ ln pl tk tp (nI n) may hd fi un sz2 may2 hd2 fi2 un2 on asd io ia kept tr) sz)) 0 0 (va_A (wX h cA by_ ln pl tk tp (nI n) may hd fi un sz2 may2 hd2 fi2 un2 on asd io ia kept tr) sz) := by
  refine Met.ofW (cc := cX2_markOfDecree) (maxL := 2) (ret := (some .int)) (by decide) rfl ?_
  intro p e s m args below meth c s₁ B hml hv
  obtain ⟨rfl, hsz, hP, hK, hD, hN⟩ := hv
  have hx := B.exec
  have hb := B.bytes
  have hr := B.returns
  have hts := atoms_spec (ws := wsX2_markOfDecree) B.pre
  have hown : s.vm.findClass RX2 = some m.cls := findClass_of_methodNamed B.named
  have hlocks := B.notSynchronized
  have hinX2 : ∀ w ∈ wsX20, w ∈ wsX2_markOfDecree := fun w h => List.mem_cons_of_mem _ (List.mem_append_left _ (List.mem_append_right _ h))
  subst hsz
  replace hD := hD.self (sz := s.heap.size)
  generalize hAe : va_A (wX h cA by_ ln pl tk tp (nI n) may hd fi un sz2 may2 hd2 fi2 un2 on asd io ia kept tr) s.heap.size = A at hD ⊢
  have hA : ∀ q : Nat, s.heap.size ≤ q → A q := fun q h => by rw [← hAe]; exact Or.inr h
  have hS : va_S A s.heap s.heap [] := va_S.rf
  have hl := lv_entry ([.ref (h 0), .int k]) (n := 2) (Nat.le_of_ble_eq_true rfl)
  rw [lg_entry_eq]
  generalize (lg_sl ([.ref (h 0), .int k]) ++ List.replicate (2 - (lg_sl ([.ref (h 0), .int k])).length) Slot.unset).toArray = ls at hl ⊢
  replace hl : lv_has ls 2 [(0, .ref (h 0)), (1, .int k)] := hl
  have hKe := hK.sub (tys' := []) [] rfl
  refine lv_aload_n hx hb dX2_markOfDecree_0 rfl (lv_at hl 0 rfl) ?_
  refine lv_dup hx hb dX2_markOfDecree_1 rfl ?_
  refine va_get (D := D) (ci := 2) (v := .long tr) (C := RX2) (T := TX2) (N := 9) hx hb hts hinX2 hown hK hP 0 rfl rfl 8 (by decide) (hts (.fieldLink RX2 157 "HoldUnless" "traceSum" "J") (by decide +kernel)) (fun _ h9 => h9) rfl dX2_markOfDecree_2 ?_
  refine lv_ldc2 (v := 1000) hx hb hown (hts (.constantLong RX2 165 (1000)) (by decide +kernel)) dX2_markOfDecree_5 ?_
  refine lv_ladd hx hb dX2_markOfDecree_8 ?_
  refine va_put (D := D) (ci := 2) (v := .long (tr + 1000)) (ty := .long) (C := RX2) (T := TX2) (N := 9) hx hb hts hinX2 tyX2 tyX2_ok nmX2 hown hK hP hD hS 0 rfl rfl 8 (by decide) (hts (.fieldLink RX2 157 "HoldUnless" "traceSum" "J") (by decide +kernel)) (fun _ h9 => h9) rfl (by decide +kernel) rfl rfl (Nat.le_of_ble_eq_true rfl) dX2_markOfDecree_9 (fun H locs hP hD hS => ?_)
  replace hP : va_P D vwCl (wX h cA by_ ln pl tk tp (nI n) may hd fi un sz2 may2 hd2 fi2 un2 on asd io ia kept (tr + 1000)) H := hP
  replace hD : va_D A (wX h cA by_ ln pl tk tp (nI n) may hd fi un sz2 may2 hd2 fi2 un2 on asd io ia kept (tr + 1000)) := hD
  refine lv_aload_n hx hb dX2_markOfDecree_12 rfl (lv_at hl 0 rfl) ?_
  refine lv_iload_n hx hb dX2_markOfDecree_13 rfl (lv_at hl 1 rfl) ?_
  have hFc := va_free (wc := (wX h cA by_ ln pl tk tp (nI n) may hd fi un sz2 may2 hd2 fi2 un2 on asd io ia kept (tr + 1000))) hD hS hA [0, 1, 2, 3, 4, 5, 6, 7, 8, 9, 10, 11, 12] rfl
  refine rw_i (D := D) (wc := (wX h cA by_ ln pl tk tp (nI n) may hd fi un sz2 may2 hd2 fi2 un2 on asd io ia kept (tr + 1000))) (va_runV (As := [.int k]) (rest := []) ⟨hx, hb, hml, hown, hts⟩ (c_X2_markOfLaw l D h cA n by_ ln pl tk tp may hd fi un sz2 may2 hd2 fi2 un2 on asd io ia kept (tr + 1000) k (by first | assumption | omega) (by first | assumption | omega) _) (cwV 1 hts gX2_markOfDecree_X2_markOfLaw rfl rfl rfl (by decide +kernel) ⟨Nat.le_of_ble_eq_true rfl, Nat.le_of_ble_eq_true rfl⟩) ⟨cPre.blind, va_recv hK hP (ci := 2) (q0 := 0) rfl rfl, cPre.mk hP hK hD hN⟩ rfl rfl hl.1 rfl (lv_room (Nat.le_of_ble_eq_true rfl)) dX2_markOfDecree_14 ⟨Nat.zero_le _, Nat.zero_le _⟩) hS hFc (fun rv_2 u H1 locs hw_3 hP1 hD1 hk1 hS => ?_)
  obtain ⟨trv_1, rfl⟩ : ∃ y, y = u := ⟨_, rfl⟩
  try dsimp only at hw_3
  have hP : va_P D vwCl (wX h cA by_ ln pl tk tp (nI n) may hd fi un sz2 may2 hd2 fi2 un2 on asd io ia kept trv_1) H1 := hP1
  have hD : va_D A (wX h cA by_ ln pl tk tp (nI n) may hd fi un sz2 may2 hd2 fi2 un2 on asd io ia kept trv_1) := hD1.weaken (fun k q hk h => hFc _ h)
  clear hP1 hD1 hFc hk1
  generalize H1 = H at hP hS ⊢
  refine lv_iload_n hx hb dX2_markOfDecree_17 rfl (lv_at hl 1 rfl) ?_
  refine lv_iadd hx hb dX2_markOfDecree_18 ?_
  exact rw_iret hx hb hr hS hlocks trv_1 (show s_X2_markOfDecree fi un tr k = ((rv_2 + k), trv_1) from by (unfold s_X2_markOfDecree; (try dsimp only); (try rw [← hw_3]); (try dsimp only); first | done | rfl)).symm hP hD dX2_markOfDecree_19

def s_X2_markOfCustom (fi : Nat → Int32) (un : Nat → Int32) (on : Int32) (tr : Int64) (k : Int32) : Int32 × Int64 := (match s_X2_markOfHabit fi un (tr + 10000) k with | (rv_2, trv_1) => ((rv_2 + (s_X2_bitOf on k)), trv_1))
set_option maxHeartbeats 4000000 in
set_option maxRecDepth 100000 in
theorem c_X2_markOfCustom (l : Launch) (D : va_G) (h : Nat → Nat) (cA : Nat → ClassId) (n : Nat) (by_ : Nat → Int32) (ln : Int32) (pl : Int32) (tk : Int32) (tp : Int32) (may : Int32) (hd : Nat → Int32) (fi : Nat → Int32) (un : Nat → Int32) (sz2 : Int32) (may2 : Int32) (hd2 : Nat → Int32) (fi2 : Nat → Int32) (un2 : Nat → Int32) (on : Int32) (asd : Int32) (io : Nat → Int32) (ia : Nat → Int32) (kept : Int32) (tr : Int64) (k : Int32) (hn : n ≤ 10) (hk : vp_in k 10) (sz : Nat) : Met l yX2_markOfCustom wsX2_markOfCustom ({ frames := 3, cells := 0, slots := 0, locals := 62 }) (va_Pc [.ref (h 0), .int k] (cPre D (tX h cA) (wX h cA by_ ln pl tk tp (nI n) may hd fi un sz2 may2 hd2 fi2 un2 on asd io ia kept tr) sz)) (va_Qi (fun (r : Int32) (u : Int64) => (r, u) = s_X2_markOfCustom fi un on tr k) (rwB D (fun u : Int64 => (wX h cA by_ ln pl tk tp (nI n) may hd fi un sz2 may2 hd2 fi2 un2 on asd io ia kept u)) (va_A (wX h cA by_ ln pl tk tp (nI n) may hd fi un sz2 may2 hd2 fi2 un2 on asd io ia kept tr) sz)) (va_A (wX h cA by_ ln pl tk tp (nI n) may hd fi un sz2 may2 hd2 fi2 un2 on asd io ia kept tr) sz)) 0 0 (va_A (wX h cA by_ ln pl tk tp (nI n) may hd fi un sz2 may2 hd2 fi2 un2 on asd io ia kept tr) sz) := by
  refine Met.ofW (cc := cX2_markOfCustom) (maxL := 2) (ret := (some .int)) (by decide) rfl ?_
  intro p e s m args below meth c s₁ B hml hv
  obtain ⟨rfl, hsz, hP, hK, hD, hN⟩ := hv
  have hx := B.exec
  have hb := B.bytes
  have hr := B.returns
  have hts := atoms_spec (ws := wsX2_markOfCustom) B.pre
  have hown : s.vm.findClass RX2 = some m.cls := findClass_of_methodNamed B.named
  have hlocks := B.notSynchronized
  have hinX2 : ∀ w ∈ wsX20, w ∈ wsX2_markOfCustom := fun w h => List.mem_cons_of_mem _ (List.mem_append_left _ (List.mem_append_right _ h))
  subst hsz
  replace hD := hD.self (sz := s.heap.size)
  generalize hAe : va_A (wX h cA by_ ln pl tk tp (nI n) may hd fi un sz2 may2 hd2 fi2 un2 on asd io ia kept tr) s.heap.size = A at hD ⊢
  have hA : ∀ q : Nat, s.heap.size ≤ q → A q := fun q h => by rw [← hAe]; exact Or.inr h
  have hS : va_S A s.heap s.heap [] := va_S.rf
  have hl := lv_entry ([.ref (h 0), .int k]) (n := 2) (Nat.le_of_ble_eq_true rfl)
  rw [lg_entry_eq]
  generalize (lg_sl ([.ref (h 0), .int k]) ++ List.replicate (2 - (lg_sl ([.ref (h 0), .int k])).length) Slot.unset).toArray = ls at hl ⊢
  replace hl : lv_has ls 2 [(0, .ref (h 0)), (1, .int k)] := hl
  have hKe := hK.sub (tys' := []) [] rfl
  refine lv_aload_n hx hb dX2_markOfCustom_0 rfl (lv_at hl 0 rfl) ?_
  refine lv_dup hx hb dX2_markOfCustom_1 rfl ?_
  refine va_get (D := D) (ci := 2) (v := .long tr) (C := RX2) (T := TX2) (N := 9) hx hb hts hinX2 hown hK hP 0 rfl rfl 8 (by decide) (hts (.fieldLink RX2 157 "HoldUnless" "traceSum" "J") (by decide +kernel)) (fun _ h9 => h9) rfl dX2_markOfCustom_2 ?_
  refine lv_ldc2 (v := 10000) hx hb hown (hts (.constantLong RX2 167 (10000)) (by decide +kernel)) dX2_markOfCustom_5 ?_
  refine lv_ladd hx hb dX2_markOfCustom_8 ?_
  refine va_put (D := D) (ci := 2) (v := .long (tr + 10000)) (ty := .long) (C := RX2) (T := TX2) (N := 9) hx hb hts hinX2 tyX2 tyX2_ok nmX2 hown hK hP hD hS 0 rfl rfl 8 (by decide) (hts (.fieldLink RX2 157 "HoldUnless" "traceSum" "J") (by decide +kernel)) (fun _ h9 => h9) rfl (by decide +kernel) rfl rfl (Nat.le_of_ble_eq_true rfl) dX2_markOfCustom_9 (fun H locs hP hD hS => ?_)
  replace hP : va_P D vwCl (wX h cA by_ ln pl tk tp (nI n) may hd fi un sz2 may2 hd2 fi2 un2 on asd io ia kept (tr + 10000)) H := hP
  replace hD : va_D A (wX h cA by_ ln pl tk tp (nI n) may hd fi un sz2 may2 hd2 fi2 un2 on asd io ia kept (tr + 10000)) := hD
  refine lv_aload_n hx hb dX2_markOfCustom_12 rfl (lv_at hl 0 rfl) ?_
  refine lv_iload_n hx hb dX2_markOfCustom_13 rfl (lv_at hl 1 rfl) ?_
  have hFc := va_free (wc := (wX h cA by_ ln pl tk tp (nI n) may hd fi un sz2 may2 hd2 fi2 un2 on asd io ia kept (tr + 10000))) hD hS hA [0, 1, 2, 3, 4, 5, 6, 7, 8, 9, 10, 11, 12] rfl
  refine rw_i (D := D) (wc := (wX h cA by_ ln pl tk tp (nI n) may hd fi un sz2 may2 hd2 fi2 un2 on asd io ia kept (tr + 10000))) (va_runV (As := [.int k]) (rest := []) ⟨hx, hb, hml, hown, hts⟩ (c_X2_markOfHabit l D h cA n by_ ln pl tk tp may hd fi un sz2 may2 hd2 fi2 un2 on asd io ia kept (tr + 10000) k (by first | assumption | omega) (by first | assumption | omega) _) (cwV 1 hts gX2_markOfCustom_X2_markOfHabit rfl rfl rfl (by decide +kernel) ⟨Nat.le_of_ble_eq_true rfl, Nat.le_of_ble_eq_true rfl⟩) ⟨cPre.blind, va_recv hK hP (ci := 2) (q0 := 0) rfl rfl, cPre.mk hP hK hD hN⟩ rfl rfl hl.1 rfl (lv_room (Nat.le_of_ble_eq_true rfl)) dX2_markOfCustom_14 ⟨Nat.zero_le _, Nat.zero_le _⟩) hS hFc (fun rv_2 u H1 locs hw_3 hP1 hD1 hk1 hS => ?_)
  obtain ⟨trv_1, rfl⟩ : ∃ y, y = u := ⟨_, rfl⟩
  try dsimp only at hw_3
  have hP : va_P D vwCl (wX h cA by_ ln pl tk tp (nI n) may hd fi un sz2 may2 hd2 fi2 un2 on asd io ia kept trv_1) H1 := hP1
  have hD : va_D A (wX h cA by_ ln pl tk tp (nI n) may hd fi un sz2 may2 hd2 fi2 un2 on asd io ia kept trv_1) := hD1.weaken (fun k q hk h => hFc _ h)
  clear hP1 hD1 hFc hk1
  generalize H1 = H at hP hS ⊢
  refine lv_aload_n hx hb dX2_markOfCustom_17 rfl (lv_at hl 0 rfl) ?_
  refine va_get (D := D) (ci := 2) (v := .int on) (C := RX2) (T := TX2) (N := 9) hx hb hts hinX2 hown hK hP 0 rfl rfl 3 (by decide) (hts (.fieldLink RX2 51 "HoldUnless" "on" "I") (by decide +kernel)) (fun _ h9 => h9) rfl dX2_markOfCustom_18 ?_
  refine lv_iload_n hx hb dX2_markOfCustom_21 rfl (lv_at hl 1 rfl) ?_
  refine ro_i (D := D) (va_runS (As := [.int on, .int k]) (rest := [.int rv_2]) ⟨hx, hb, hml, hown, hts⟩ (c_X2_bitOf l D on k  _) (va_cwS 2 hts gX2_markOfCustom_X2_bitOf rfl rfl rfl (by decide +kernel) ⟨Nat.le_of_ble_eq_true rfl, Nat.le_of_ble_eq_true rfl⟩) ⟨cPre.blind, cPre.mk vP0 hKe vD0 hN⟩ rfl rfl hl.1 rfl (lv_room (Nat.le_of_ble_eq_true rfl)) dX2_markOfCustom_22 ⟨Nat.zero_le _, Nat.zero_le _⟩) hS hA (fun H locs hkp0 hS => ?_)
  replace hP := hkp0 _ hP
  refine lv_iadd hx hb dX2_markOfCustom_25 ?_
  exact rw_iret hx hb hr hS hlocks trv_1 (show s_X2_markOfCustom fi un on tr k = ((rv_2 + (s_X2_bitOf on k)), trv_1) from by (unfold s_X2_markOfCustom; (try dsimp only); (try rw [← hw_3]); (try dsimp only); first | done | rfl)).symm hP hD dX2_markOfCustom_26

def s_X2_markOfOath (hd : Nat → Int32) (fi : Nat → Int32) (un : Nat → Int32) (tr : Int64) (k : Int32) : Int32 × Int64 := (match s_X2_markOfRule fi un (tr + 100000) k with | (rv_2, trv_1) => ((rv_2 + (hd k.toNatClampNeg)), trv_1))
set_option maxHeartbeats 4000000 in
set_option maxRecDepth 100000 in
theorem c_X2_markOfOath (l : Launch) (D : va_G) (h : Nat → Nat) (cA : Nat → ClassId) (n : Nat) (by_ : Nat → Int32) (ln : Int32) (pl : Int32) (tk : Int32) (tp : Int32) (may : Int32) (hd : Nat → Int32) (fi : Nat → Int32) (un : Nat → Int32) (sz2 : Int32) (may2 : Int32) (hd2 : Nat → Int32) (fi2 : Nat → Int32) (un2 : Nat → Int32) (on : Int32) (asd : Int32) (io : Nat → Int32) (ia : Nat → Int32) (kept : Int32) (tr : Int64) (k : Int32) (hn : n ≤ 10) (hk : vp_in k 10) (sz : Nat) : Met l yX2_markOfOath wsX2_markOfOath ({ frames := 2, cells := 0, slots := 0, locals := 41 }) (va_Pc [.ref (h 0), .int k] (cPre D (tX h cA) (wX h cA by_ ln pl tk tp (nI n) may hd fi un sz2 may2 hd2 fi2 un2 on asd io ia kept tr) sz)) (va_Qi (fun (r : Int32) (u : Int64) => (r, u) = s_X2_markOfOath hd fi un tr k) (rwB D (fun u : Int64 => (wX h cA by_ ln pl tk tp (nI n) may hd fi un sz2 may2 hd2 fi2 un2 on asd io ia kept u)) (va_A (wX h cA by_ ln pl tk tp (nI n) may hd fi un sz2 may2 hd2 fi2 un2 on asd io ia kept tr) sz)) (va_A (wX h cA by_ ln pl tk tp (nI n) may hd fi un sz2 may2 hd2 fi2 un2 on asd io ia kept tr) sz)) 0 0 (va_A (wX h cA by_ ln pl tk tp (nI n) may hd fi un sz2 may2 hd2 fi2 un2 on asd io ia kept tr) sz) := by
  refine Met.ofW (cc := cX2_markOfOath) (maxL := 2) (ret := (some .int)) (by decide) rfl ?_
  intro p e s m args below meth c s₁ B hml hv
  obtain ⟨rfl, hsz, hP, hK, hD, hN⟩ := hv
  have hx := B.exec
  have hb := B.bytes
  have hr := B.returns
  have hts := atoms_spec (ws := wsX2_markOfOath) B.pre
  have hown : s.vm.findClass RX2 = some m.cls := findClass_of_methodNamed B.named
  have hlocks := B.notSynchronized
  have hinX0 : ∀ w ∈ wsX00, w ∈ wsX2_markOfOath := fun w h => List.mem_cons_of_mem _ (List.mem_append_right _ h)
  have hinX2 : ∀ w ∈ wsX20, w ∈ wsX2_markOfOath := fun w h => List.mem_cons_of_mem _ (List.mem_append_left _ (List.mem_append_right _ h))
  subst hsz
  replace hD := hD.self (sz := s.heap.size)
  generalize hAe : va_A (wX h cA by_ ln pl tk tp (nI n) may hd fi un sz2 may2 hd2 fi2 un2 on asd io ia kept tr) s.heap.size = A at hD ⊢
  have hA : ∀ q : Nat, s.heap.size ≤ q → A q := fun q h => by rw [← hAe]; exact Or.inr h
  have hS : va_S A s.heap s.heap [] := va_S.rf
  have hl := lv_entry ([.ref (h 0), .int k]) (n := 2) (Nat.le_of_ble_eq_true rfl)
  rw [lg_entry_eq]
  generalize (lg_sl ([.ref (h 0), .int k]) ++ List.replicate (2 - (lg_sl ([.ref (h 0), .int k])).length) Slot.unset).toArray = ls at hl ⊢
  replace hl : lv_has ls 2 [(0, .ref (h 0)), (1, .int k)] := hl
  have hKe := hK.sub (tys' := []) [] rfl
  refine lv_aload_n hx hb dX2_markOfOath_0 rfl (lv_at hl 0 rfl) ?_
  refine lv_dup hx hb dX2_markOfOath_1 rfl ?_
  refine va_get (D := D) (ci := 2) (v := .long tr) (C := RX2) (T := TX2) (N := 9) hx hb hts hinX2 hown hK hP 0 rfl rfl 8 (by decide) (hts (.fieldLink RX2 157 "HoldUnless" "traceSum" "J") (by decide +kernel)) (fun _ h9 => h9) rfl dX2_markOfOath_2 ?_
  refine lv_ldc2 (v := 100000) hx hb hown (hts (.constantLong RX2 169 (100000)) (by decide +kernel)) dX2_markOfOath_5 ?_
  refine lv_ladd hx hb dX2_markOfOath_8 ?_
  refine va_put (D := D) (ci := 2) (v := .long (tr + 100000)) (ty := .long) (C := RX2) (T := TX2) (N := 9) hx hb hts hinX2 tyX2 tyX2_ok nmX2 hown hK hP hD hS 0 rfl rfl 8 (by decide) (hts (.fieldLink RX2 157 "HoldUnless" "traceSum" "J") (by decide +kernel)) (fun _ h9 => h9) rfl (by decide +kernel) rfl rfl (Nat.le_of_ble_eq_true rfl) dX2_markOfOath_9 (fun H locs hP hD hS => ?_)
  replace hP : va_P D vwCl (wX h cA by_ ln pl tk tp (nI n) may hd fi un sz2 may2 hd2 fi2 un2 on asd io ia kept (tr + 100000)) H := hP
  replace hD : va_D A (wX h cA by_ ln pl tk tp (nI n) may hd fi un sz2 may2 hd2 fi2 un2 on asd io ia kept (tr + 100000)) := hD
  refine lv_aload_n hx hb dX2_markOfOath_12 rfl (lv_at hl 0 rfl) ?_
  refine lv_iload_n hx hb dX2_markOfOath_13 rfl (lv_at hl 1 rfl) ?_
  have hFc := va_free (wc := (wX h cA by_ ln pl tk tp (nI n) may hd fi un sz2 may2 hd2 fi2 un2 on asd io ia kept (tr + 100000))) hD hS hA [0, 1, 2, 3, 4, 5, 6, 7, 8, 9, 10, 11, 12] rfl
  refine rw_i (D := D) (wc := (wX h cA by_ ln pl tk tp (nI n) may hd fi un sz2 may2 hd2 fi2 un2 on asd io ia kept (tr + 100000))) (va_runV (As := [.int k]) (rest := []) ⟨hx, hb, hml, hown, hts⟩ (c_X2_markOfRule l D h cA n by_ ln pl tk tp may hd fi un sz2 may2 hd2 fi2 un2 on asd io ia kept (tr + 100000) k (by first | assumption | omega) (by first | assumption | omega) _) (cwV 1 hts gX2_markOfOath_X2_markOfRule rfl rfl rfl (by decide +kernel) ⟨Nat.le_of_ble_eq_true rfl, Nat.le_of_ble_eq_true rfl⟩) ⟨cPre.blind, va_recv hK hP (ci := 2) (q0 := 0) rfl rfl, cPre.mk hP hK hD hN⟩ rfl rfl hl.1 rfl (lv_room (Nat.le_of_ble_eq_true rfl)) dX2_markOfOath_14 ⟨Nat.zero_le _, Nat.zero_le _⟩) hS hFc (fun rv_2 u H1 locs hw_3 hP1 hD1 hk1 hS => ?_)
  obtain ⟨trv_1, rfl⟩ : ∃ y, y = u := ⟨_, rfl⟩
  try dsimp only at hw_3
  have hP : va_P D vwCl (wX h cA by_ ln pl tk tp (nI n) may hd fi un sz2 may2 hd2 fi2 un2 on asd io ia kept trv_1) H1 := hP1
  have hD : va_D A (wX h cA by_ ln pl tk tp (nI n) may hd fi un sz2 may2 hd2 fi2 un2 on asd io ia kept trv_1) := hD1.weaken (fun k q hk h => hFc _ h)
  clear hP1 hD1 hFc hk1
  generalize H1 = H at hP hS ⊢
  refine lv_aload_n hx hb dX2_markOfOath_17 rfl (lv_at hl 0 rfl) ?_
  refine va_get (D := D) (ci := 2) (v := .ref (h 3)) (C := RX2) (T := TX2) (N := 9) hx hb hts hinX2 hown hK hP 0 rfl rfl 1 (by decide) (hts (.fieldLink RX2 19 "HoldUnless" "book" "LHoldUnless$RuleBook;") (by decide +kernel)) (fun _ h9 => h9) rfl dX2_markOfOath_18 ?_
  refine va_getN (D := D) (ci := 0) (v := .ref (h 4)) (C := RX0) (T := TX0) (N := 5) hx hb hts hinX0 hown hK hP 3 rfl rfl 2 (by decide) (hN.use 21 rfl) (fun _ h9 => h9) rfl dX2_markOfOath_21 ?_
  refine lv_iload_n hx hb dX2_markOfOath_24 rfl (lv_at hl 1 rfl) ?_
  refine va_iald hx hb hK hP 4 1 rfl rfl (hk) dX2_markOfOath_25 ?_
  refine lv_iadd hx hb dX2_markOfOath_26 ?_
  exact rw_iret hx hb hr hS hlocks trv_1 (show s_X2_markOfOath hd fi un tr k = ((rv_2 + (hd k.toNatClampNeg)), trv_1) from by (unfold s_X2_markOfOath; (try dsimp only); (try rw [← hw_3]); (try dsimp only); first | done | rfl)).symm hP hD dX2_markOfOath_27

def s_X2_mark (n : Nat) (hd : Nat → Int32) (fi : Nat → Int32) (un : Nat → Int32) (on : Int32) (tr : Int64) (kind : Int32) (k : Int32) : Int32 × Int64 := (if (s_X2_isRule n k) = 0 then ((-1000000), tr) else (if kind = 0 then (match s_X2_markOfRule fi un tr k with | (rv_4, trv_3) => (rv_4, trv_3)) else (if kind = 1 then (match s_X2_markOfLaw fi un tr k with | (rv_8, trv_7) => (rv_8, trv_7)) else (if kind = 2 then (match s_X2_markOfHabit fi un tr k with | (rv_12, trv_11) => (rv_12, trv_11)) else (if kind = 3 then (match s_X2_markOfDecree fi un tr k with | (rv_16, trv_15) => (rv_16, trv_15)) else (if kind = 4 then (match s_X2_markOfCustom fi un on tr k with | (rv_20, trv_19) => (rv_20, trv_19)) else (if kind = 5 then (match s_X2_markOfOath hd fi un tr k with | (rv_24, trv_23) => (rv_24, trv_23)) else ((-1000000), tr))))))))
set_option maxHeartbeats 4000000 in
set_option maxRecDepth 100000 in
theorem c_X2_mark (l : Launch) (D : va_G) (h : Nat → Nat) (cA : Nat → ClassId) (n : Nat) (by_ : Nat → Int32) (ln : Int32) (pl : Int32) (tk : Int32) (tp : Int32) (may : Int32) (hd : Nat → Int32) (fi : Nat → Int32) (un : Nat → Int32) (sz2 : Int32) (may2 : Int32) (hd2 : Nat → Int32) (fi2 : Nat → Int32) (un2 : Nat → Int32) (on : Int32) (asd : Int32) (io : Nat → Int32) (ia : Nat → Int32) (kept : Int32) (tr : Int64) (kind : Int32) (k : Int32) (hn : n ≤ 10) (sz : Nat) : Met l yX2_mark wsX2_mark ({ frames := 4, cells := 0, slots := 0, locals := 83 }) (va_Pc [.ref (h 0), .int kind, .int k] (cPre D (tX h cA) (wX h cA by_ ln pl tk tp (nI n) may hd fi un sz2 may2 hd2 fi2 un2 on asd io ia kept tr) sz)) (va_Qi (fun (r : Int32) (u : Int64) => (r, u) = s_X2_mark n hd fi un on tr kind k) (rwB D (fun u : Int64 => (wX h cA by_ ln pl tk tp (nI n) may hd fi un sz2 may2 hd2 fi2 un2 on asd io ia kept u)) (va_A (wX h cA by_ ln pl tk tp (nI n) may hd fi un sz2 may2 hd2 fi2 un2 on asd io ia kept tr) sz)) (va_A (wX h cA by_ ln pl tk tp (nI n) may hd fi un sz2 may2 hd2 fi2 un2 on asd io ia kept tr) sz)) 0 0 (va_A (wX h cA by_ ln pl tk tp (nI n) may hd fi un sz2 may2 hd2 fi2 un2 on asd io ia kept tr) sz) := by
  refine Met.ofW (cc := cX2_mark) (maxL := 3) (ret := (some .int)) (by decide) rfl ?_
  intro p e s m args below meth c s₁ B hml hv
  obtain ⟨rfl, hsz, hP, hK, hD, hN⟩ := hv
  have hx := B.exec
  have hb := B.bytes
  have hr := B.returns
  have hts := atoms_spec (ws := wsX2_mark) B.pre
  have hown : s.vm.findClass RX2 = some m.cls := findClass_of_methodNamed B.named
  have hlocks := B.notSynchronized
  subst hsz
  replace hD := hD.self (sz := s.heap.size)
  generalize hAe : va_A (wX h cA by_ ln pl tk tp (nI n) may hd fi un sz2 may2 hd2 fi2 un2 on asd io ia kept tr) s.heap.size = A at hD ⊢
  have hA : ∀ q : Nat, s.heap.size ≤ q → A q := fun q h => by rw [← hAe]; exact Or.inr h
  have hS : va_S A s.heap s.heap [] := va_S.rf
  have hl := lv_entry ([.ref (h 0), .int kind, .int k]) (n := 3) (Nat.le_of_ble_eq_true rfl)
  rw [lg_entry_eq]
  generalize (lg_sl ([.ref (h 0), .int kind, .int k]) ++ List.replicate (3 - (lg_sl ([.ref (h 0), .int kind, .int k])).length) Slot.unset).toArray = ls at hl ⊢
  replace hl : lv_has ls 3 [(0, .ref (h 0)), (1, .int kind), (2, .int k)] := hl
  have hKe := hK.sub (tys' := []) [] rfl
  refine lv_aload_n hx hb dX2_mark_0 rfl (lv_at hl 0 rfl) ?_
  refine lv_iload_n hx hb dX2_mark_1 rfl (lv_at hl 2 rfl) ?_
  refine ro_i (D := D) (va_runV (As := [.int k]) (rest := []) ⟨hx, hb, hml, hown, hts⟩ (c_X2_isRule l D h cA n by_ ln pl tk tp may hd fi un sz2 may2 hd2 fi2 un2 on asd io ia kept tr k (by first | assumption | omega) _) (cwV 1 hts gX2_mark_X2_isRule rfl rfl rfl (by decide +kernel) ⟨Nat.le_of_ble_eq_true rfl, Nat.le_of_ble_eq_true rfl⟩) ⟨cPre.blind, va_recv hK hP (ci := 2) (q0 := 0) rfl rfl, cPre.mk hP hK hD hN⟩ rfl rfl hl.1 rfl (lv_room (Nat.le_of_ble_eq_true rfl)) dX2_mark_2 ⟨Nat.zero_le _, Nat.zero_le _⟩) hS hA (fun H locs hkp0 hS => ?_)
  replace hP := hkp0 _ hP
  refine lv_if_ne (tgt := 11) hx hb dX2_mark_5 (by decide) (fun c_5_1 => ?_) (fun c_5_1 => ?_)
  · refine lv_iload_n hx hb dX2_mark_11 rfl (lv_at hl 1 rfl) ?_
    by_cases k_12_2 : kind = 0
    · refine lv_tableIn (tgt := 52) hx hb dX2_mark_12 (by rw [k_12_2]; decide) (by rw [k_12_2]; decide) (by rw [k_12_2]; rfl) (by decide) ?_
      refine lv_aload_n hx hb dX2_mark_52 rfl (lv_at hl 0 rfl) ?_
      refine lv_iload_n hx hb dX2_mark_53 rfl (lv_at hl 2 rfl) ?_
      have hFc := va_free (wc := (wX h cA by_ ln pl tk tp (nI n) may hd fi un sz2 may2 hd2 fi2 un2 on asd io ia kept tr)) hD hS hA [0, 1, 2, 3, 4, 5, 6, 7, 8, 9, 10, 11, 12] rfl
      refine rw_i (D := D) (wc := (wX h cA by_ ln pl tk tp (nI n) may hd fi un sz2 may2 hd2 fi2 un2 on asd io ia kept tr)) (va_runV (As := [.int k]) (rest := []) ⟨hx, hb, hml, hown, hts⟩ (c_X2_markOfRule l D h cA n by_ ln pl tk tp may hd fi un sz2 may2 hd2 fi2 un2 on asd io ia kept tr k (by first | assumption | omega) (vp_rule c_5_1 hn) _) (cwV 1 hts gX2_mark_X2_markOfRule rfl rfl rfl (by decide +kernel) ⟨Nat.le_of_ble_eq_true rfl, Nat.le_of_ble_eq_true rfl⟩) ⟨cPre.blind, va_recv hK hP (ci := 2) (q0 := 0) rfl rfl, cPre.mk hP hK hD hN⟩ rfl rfl hl.1 rfl (lv_room (Nat.le_of_ble_eq_true rfl)) dX2_mark_54 ⟨Nat.zero_le _, Nat.zero_le _⟩) hS hFc (fun rv_4 u H1 locs hw_5 hP1 hD1 hk1 hS => ?_)
      obtain ⟨trv_3, rfl⟩ : ∃ y, y = u := ⟨_, rfl⟩
      try dsimp only at hw_5
      have hP : va_P D vwCl (wX h cA by_ ln pl tk tp (nI n) may hd fi un sz2 may2 hd2 fi2 un2 on asd io ia kept trv_3) H1 := hP1
      have hD : va_D A (wX h cA by_ ln pl tk tp (nI n) may hd fi un sz2 may2 hd2 fi2 un2 on asd io ia kept trv_3) := hD1.weaken (fun k q hk h => hFc _ h)
      clear hP1 hD1 hFc hk1
      generalize H1 = H at hP hS ⊢
      exact rw_iret hx hb hr hS hlocks trv_3 (show s_X2_mark n hd fi un on tr kind k = (rv_4, trv_3) from by (unfold s_X2_mark; (try dsimp only); (try rw [if_neg c_5_1]); (try rw [if_pos k_12_2]); (try rw [← hw_5]); (try dsimp only); first | done | rfl)).symm hP hD dX2_mark_57
    · by_cases k_12_6 : kind = 1
      · refine lv_tableIn (tgt := 58) hx hb dX2_mark_12 (by rw [k_12_6]; decide) (by rw [k_12_6]; decide) (by rw [k_12_6]; rfl) (by decide) ?_
        refine lv_aload_n hx hb dX2_mark_58 rfl (lv_at hl 0 rfl) ?_
        refine lv_iload_n hx hb dX2_mark_59 rfl (lv_at hl 2 rfl) ?_
        have hFc := va_free (wc := (wX h cA by_ ln pl tk tp (nI n) may hd fi un sz2 may2 hd2 fi2 un2 on asd io ia kept tr)) hD hS hA [0, 1, 2, 3, 4, 5, 6, 7, 8, 9, 10, 11, 12] rfl
        refine rw_i (D := D) (wc := (wX h cA by_ ln pl tk tp (nI n) may hd fi un sz2 may2 hd2 fi2 un2 on asd io ia kept tr)) (va_runV (As := [.int k]) (rest := []) ⟨hx, hb, hml, hown, hts⟩ (c_X2_markOfLaw l D h cA n by_ ln pl tk tp may hd fi un sz2 may2 hd2 fi2 un2 on asd io ia kept tr k (by first | assumption | omega) (vp_rule c_5_1 hn) _) (cwV 1 hts gX2_mark_X2_markOfLaw rfl rfl rfl (by decide +kernel) ⟨Nat.le_of_ble_eq_true rfl, Nat.le_of_ble_eq_true rfl⟩) ⟨cPre.blind, va_recv hK hP (ci := 2) (q0 := 0) rfl rfl, cPre.mk hP hK hD hN⟩ rfl rfl hl.1 rfl (lv_room (Nat.le_of_ble_eq_true rfl)) dX2_mark_60 ⟨Nat.zero_le _, Nat.zero_le _⟩) hS hFc (fun rv_8 u H1 locs hw_9 hP1 hD1 hk1 hS => ?_)
        obtain ⟨trv_7, rfl⟩ : ∃ y, y = u := ⟨_, rfl⟩
        try dsimp only at hw_9
        have hP : va_P D vwCl (wX h cA by_ ln pl tk tp (nI n) may hd fi un sz2 may2 hd2 fi2 un2 on asd io ia kept trv_7) H1 := hP1
        have hD : va_D A (wX h cA by_ ln pl tk tp (nI n) may hd fi un sz2 may2 hd2 fi2 un2 on asd io ia kept trv_7) := hD1.weaken (fun k q hk h => hFc _ h)
        clear hP1 hD1 hFc hk1
        generalize H1 = H at hP hS ⊢
        exact rw_iret hx hb hr hS hlocks trv_7 (show s_X2_mark n hd fi un on tr kind k = (rv_8, trv_7) from by (unfold s_X2_mark; (try dsimp only); (try rw [if_neg c_5_1]); (try rw [if_neg k_12_2]); (try rw [if_pos k_12_6]); (try rw [← hw_9]); (try dsimp only); first | done | rfl)).symm hP hD dX2_mark_63
      · by_cases k_12_10 : kind = 2
        · refine lv_tableIn (tgt := 64) hx hb dX2_mark_12 (by rw [k_12_10]; decide) (by rw [k_12_10]; decide) (by rw [k_12_10]; rfl) (by decide) ?_
          refine lv_aload_n hx hb dX2_mark_64 rfl (lv_at hl 0 rfl) ?_
          refine lv_iload_n hx hb dX2_mark_65 rfl (lv_at hl 2 rfl) ?_
          have hFc := va_free (wc := (wX h cA by_ ln pl tk tp (nI n) may hd fi un sz2 may2 hd2 fi2 un2 on asd io ia kept tr)) hD hS hA [0, 1, 2, 3, 4, 5, 6, 7, 8, 9, 10, 11, 12] rfl
          refine rw_i (D := D) (wc := (wX h cA by_ ln pl tk tp (nI n) may hd fi un sz2 may2 hd2 fi2 un2 on asd io ia kept tr)) (va_runV (As := [.int k]) (rest := []) ⟨hx, hb, hml, hown, hts⟩ (c_X2_markOfHabit l D h cA n by_ ln pl tk tp may hd fi un sz2 may2 hd2 fi2 un2 on asd io ia kept tr k (by first | assumption | omega) (vp_rule c_5_1 hn) _) (cwV 1 hts gX2_mark_X2_markOfHabit rfl rfl rfl (by decide +kernel) ⟨Nat.le_of_ble_eq_true rfl, Nat.le_of_ble_eq_true rfl⟩) ⟨cPre.blind, va_recv hK hP (ci := 2) (q0 := 0) rfl rfl, cPre.mk hP hK hD hN⟩ rfl rfl hl.1 rfl (lv_room (Nat.le_of_ble_eq_true rfl)) dX2_mark_66 ⟨Nat.zero_le _, Nat.zero_le _⟩) hS hFc (fun rv_12 u H1 locs hw_13 hP1 hD1 hk1 hS => ?_)
          obtain ⟨trv_11, rfl⟩ : ∃ y, y = u := ⟨_, rfl⟩
          try dsimp only at hw_13
          have hP : va_P D vwCl (wX h cA by_ ln pl tk tp (nI n) may hd fi un sz2 may2 hd2 fi2 un2 on asd io ia kept trv_11) H1 := hP1
          have hD : va_D A (wX h cA by_ ln pl tk tp (nI n) may hd fi un sz2 may2 hd2 fi2 un2 on asd io ia kept trv_11) := hD1.weaken (fun k q hk h => hFc _ h)
          clear hP1 hD1 hFc hk1
          generalize H1 = H at hP hS ⊢
          exact rw_iret hx hb hr hS hlocks trv_11 (show s_X2_mark n hd fi un on tr kind k = (rv_12, trv_11) from by (unfold s_X2_mark; (try dsimp only); (try rw [if_neg c_5_1]); (try rw [if_neg k_12_2]); (try rw [if_neg k_12_6]); (try rw [if_pos k_12_10]); (try rw [← hw_13]); (try dsimp only); first | done | rfl)).symm hP hD dX2_mark_69
        · by_cases k_12_14 : kind = 3
          · refine lv_tableIn (tgt := 70) hx hb dX2_mark_12 (by rw [k_12_14]; decide) (by rw [k_12_14]; decide) (by rw [k_12_14]; rfl) (by decide) ?_
            refine lv_aload_n hx hb dX2_mark_70 rfl (lv_at hl 0 rfl) ?_
            refine lv_iload_n hx hb dX2_mark_71 rfl (lv_at hl 2 rfl) ?_
            have hFc := va_free (wc := (wX h cA by_ ln pl tk tp (nI n) may hd fi un sz2 may2 hd2 fi2 un2 on asd io ia kept tr)) hD hS hA [0, 1, 2, 3, 4, 5, 6, 7, 8, 9, 10, 11, 12] rfl
            refine rw_i (D := D) (wc := (wX h cA by_ ln pl tk tp (nI n) may hd fi un sz2 may2 hd2 fi2 un2 on asd io ia kept tr)) (va_runV (As := [.int k]) (rest := []) ⟨hx, hb, hml, hown, hts⟩ (c_X2_markOfDecree l D h cA n by_ ln pl tk tp may hd fi un sz2 may2 hd2 fi2 un2 on asd io ia kept tr k (by first | assumption | omega) (vp_rule c_5_1 hn) _) (cwV 1 hts gX2_mark_X2_markOfDecree rfl rfl rfl (by decide +kernel) ⟨Nat.le_of_ble_eq_true rfl, Nat.le_of_ble_eq_true rfl⟩) ⟨cPre.blind, va_recv hK hP (ci := 2) (q0 := 0) rfl rfl, cPre.mk hP hK hD hN⟩ rfl rfl hl.1 rfl (lv_room (Nat.le_of_ble_eq_true rfl)) dX2_mark_72 ⟨Nat.zero_le _, Nat.zero_le _⟩) hS hFc (fun rv_16 u H1 locs hw_17 hP1 hD1 hk1 hS => ?_)
            obtain ⟨trv_15, rfl⟩ : ∃ y, y = u := ⟨_, rfl⟩
            try dsimp only at hw_17
            have hP : va_P D vwCl (wX h cA by_ ln pl tk tp (nI n) may hd fi un sz2 may2 hd2 fi2 un2 on asd io ia kept trv_15) H1 := hP1
            have hD : va_D A (wX h cA by_ ln pl tk tp (nI n) may hd fi un sz2 may2 hd2 fi2 un2 on asd io ia kept trv_15) := hD1.weaken (fun k q hk h => hFc _ h)
            clear hP1 hD1 hFc hk1
            generalize H1 = H at hP hS ⊢
            exact rw_iret hx hb hr hS hlocks trv_15 (show s_X2_mark n hd fi un on tr kind k = (rv_16, trv_15) from by (unfold s_X2_mark; (try dsimp only); (try rw [if_neg c_5_1]); (try rw [if_neg k_12_2]); (try rw [if_neg k_12_6]); (try rw [if_neg k_12_10]); (try rw [if_pos k_12_14]); (try rw [← hw_17]); (try dsimp only); first | done | rfl)).symm hP hD dX2_mark_75
          · by_cases k_12_18 : kind = 4
            · refine lv_tableIn (tgt := 76) hx hb dX2_mark_12 (by rw [k_12_18]; decide) (by rw [k_12_18]; decide) (by rw [k_12_18]; rfl) (by decide) ?_
              refine lv_aload_n hx hb dX2_mark_76 rfl (lv_at hl 0 rfl) ?_
              refine lv_iload_n hx hb dX2_mark_77 rfl (lv_at hl 2 rfl) ?_
              have hFc := va_free (wc := (wX h cA by_ ln pl tk tp (nI n) may hd fi un sz2 may2 hd2 fi2 un2 on asd io ia kept tr)) hD hS hA [0, 1, 2, 3, 4, 5, 6, 7, 8, 9, 10, 11, 12] rfl
              refine rw_i (D := D) (wc := (wX h cA by_ ln pl tk tp (nI n) may hd fi un sz2 may2 hd2 fi2 un2 on asd io ia kept tr)) (va_runV (As := [.int k]) (rest := []) ⟨hx, hb, hml, hown, hts⟩ (c_X2_markOfCustom l D h cA n by_ ln pl tk tp may hd fi un sz2 may2 hd2 fi2 un2 on asd io ia kept tr k (by first | assumption | omega) (vp_rule c_5_1 hn) _) (cwV 1 hts gX2_mark_X2_markOfCustom rfl rfl rfl (by decide +kernel) ⟨Nat.le_of_ble_eq_true rfl, Nat.le_of_ble_eq_true rfl⟩) ⟨cPre.blind, va_recv hK hP (ci := 2) (q0 := 0) rfl rfl, cPre.mk hP hK hD hN⟩ rfl rfl hl.1 rfl (lv_room (Nat.le_of_ble_eq_true rfl)) dX2_mark_78 ⟨Nat.zero_le _, Nat.zero_le _⟩) hS hFc (fun rv_20 u H1 locs hw_21 hP1 hD1 hk1 hS => ?_)
              obtain ⟨trv_19, rfl⟩ : ∃ y, y = u := ⟨_, rfl⟩
              try dsimp only at hw_21
              have hP : va_P D vwCl (wX h cA by_ ln pl tk tp (nI n) may hd fi un sz2 may2 hd2 fi2 un2 on asd io ia kept trv_19) H1 := hP1
              have hD : va_D A (wX h cA by_ ln pl tk tp (nI n) may hd fi un sz2 may2 hd2 fi2 un2 on asd io ia kept trv_19) := hD1.weaken (fun k q hk h => hFc _ h)
              clear hP1 hD1 hFc hk1
              generalize H1 = H at hP hS ⊢
              exact rw_iret hx hb hr hS hlocks trv_19 (show s_X2_mark n hd fi un on tr kind k = (rv_20, trv_19) from by (unfold s_X2_mark; (try dsimp only); (try rw [if_neg c_5_1]); (try rw [if_neg k_12_2]); (try rw [if_neg k_12_6]); (try rw [if_neg k_12_10]); (try rw [if_neg k_12_14]); (try rw [if_pos k_12_18]); (try rw [← hw_21]); (try dsimp only); first | done | rfl)).symm hP hD dX2_mark_81
            · by_cases k_12_22 : kind = 5
              · refine lv_tableIn (tgt := 82) hx hb dX2_mark_12 (by rw [k_12_22]; decide) (by rw [k_12_22]; decide) (by rw [k_12_22]; rfl) (by decide) ?_
                refine lv_aload_n hx hb dX2_mark_82 rfl (lv_at hl 0 rfl) ?_
                refine lv_iload_n hx hb dX2_mark_83 rfl (lv_at hl 2 rfl) ?_
                have hFc := va_free (wc := (wX h cA by_ ln pl tk tp (nI n) may hd fi un sz2 may2 hd2 fi2 un2 on asd io ia kept tr)) hD hS hA [0, 1, 2, 3, 4, 5, 6, 7, 8, 9, 10, 11, 12] rfl
                refine rw_i (D := D) (wc := (wX h cA by_ ln pl tk tp (nI n) may hd fi un sz2 may2 hd2 fi2 un2 on asd io ia kept tr)) (va_runV (As := [.int k]) (rest := []) ⟨hx, hb, hml, hown, hts⟩ (c_X2_markOfOath l D h cA n by_ ln pl tk tp may hd fi un sz2 may2 hd2 fi2 un2 on asd io ia kept tr k (by first | assumption | omega) (vp_rule c_5_1 hn) _) (cwV 1 hts gX2_mark_X2_markOfOath rfl rfl rfl (by decide +kernel) ⟨Nat.le_of_ble_eq_true rfl, Nat.le_of_ble_eq_true rfl⟩) ⟨cPre.blind, va_recv hK hP (ci := 2) (q0 := 0) rfl rfl, cPre.mk hP hK hD hN⟩ rfl rfl hl.1 rfl (lv_room (Nat.le_of_ble_eq_true rfl)) dX2_mark_84 ⟨Nat.zero_le _, Nat.zero_le _⟩) hS hFc (fun rv_24 u H1 locs hw_25 hP1 hD1 hk1 hS => ?_)
                obtain ⟨trv_23, rfl⟩ : ∃ y, y = u := ⟨_, rfl⟩
                try dsimp only at hw_25
                have hP : va_P D vwCl (wX h cA by_ ln pl tk tp (nI n) may hd fi un sz2 may2 hd2 fi2 un2 on asd io ia kept trv_23) H1 := hP1
                have hD : va_D A (wX h cA by_ ln pl tk tp (nI n) may hd fi un sz2 may2 hd2 fi2 un2 on asd io ia kept trv_23) := hD1.weaken (fun k q hk h => hFc _ h)
                clear hP1 hD1 hFc hk1
                generalize H1 = H at hP hS ⊢
                exact rw_iret hx hb hr hS hlocks trv_23 (show s_X2_mark n hd fi un on tr kind k = (rv_24, trv_23) from by (unfold s_X2_mark; (try dsimp only); (try rw [if_neg c_5_1]); (try rw [if_neg k_12_2]); (try rw [if_neg k_12_6]); (try rw [if_neg k_12_10]); (try rw [if_neg k_12_14]); (try rw [if_neg k_12_18]); (try rw [if_pos k_12_22]); (try rw [← hw_25]); (try dsimp only); first | done | rfl)).symm hP hD dX2_mark_87
              · have ne_26 := lv_neT (a := 0) k_12_2 (by decide)
                have ne_27 := lv_neT (a := 1) k_12_6 (by decide)
                have ne_28 := lv_neT (a := 2) k_12_10 (by decide)
                have ne_29 := lv_neT (a := 3) k_12_14 (by decide)
                have ne_30 := lv_neT (a := 4) k_12_18 (by decide)
                have ne_31 := lv_neT (a := 5) k_12_22 (by decide)
                refine lv_tableOut (tgt := 88) hx hb dX2_mark_12 (by omega) (by decide) ?_
                refine lv_ldc (v := (-1000000)) hx hb hown (hts (.constant RX2 138 (-1000000)) (by decide +kernel)) dX2_mark_88 ?_
                exact rw_iret hx hb hr hS hlocks tr (show s_X2_mark n hd fi un on tr kind k = ((-1000000), tr) from by (unfold s_X2_mark; (try dsimp only); (try rw [if_neg c_5_1]); (try rw [if_neg k_12_2]); (try rw [if_neg k_12_6]); (try rw [if_neg k_12_10]); (try rw [if_neg k_12_14]); (try rw [if_neg k_12_18]); (try rw [if_neg k_12_22]); first | done | rfl)).symm hP hD dX2_mark_90
  · refine lv_ldc (v := (-1000000)) hx hb hown (hts (.constant RX2 138 (-1000000)) (by decide +kernel)) dX2_mark_8 ?_
    exact rw_iret hx hb hr hS hlocks tr (show s_X2_mark n hd fi un on tr kind k = ((-1000000), tr) from by (unfold s_X2_mark; (try dsimp only); (try rw [if_pos c_5_1]); first | done | rfl)).symm hP hD dX2_mark_10
end
