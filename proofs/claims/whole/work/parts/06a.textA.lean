def wT (t0 : Nat) (t1 : Nat) (ct : ClassId) (by_ : Nat → Int32) (ln : Int32) (pl : Int32) (tk : Int32) (tp : Int32) : va_W := [(t0, .inr (1, [.ref t1, .int ln, .int pl, .int tk, .int tp])), (t1, .inl (ct, 300, .inl by_))]
def tT (t0 : Nat) (t1 : Nat) (ct : ClassId) : List (ClassId × FieldType) := [(ct, .byte)]
def wTB (t0 : Nat) (t1 : Nat) (ct : ClassId) (a0 : Nat) (a1 : Nat) (a2 : Nat) (a3 : Nat) (b1 : ClassId) (b2 : ClassId) (b3 : ClassId) (by_ : Nat → Int32) (ln : Int32) (pl : Int32) (tk : Int32) (tp : Int32) (sz : Int32) (may : Int32) (hd : Nat → Int32) (fi : Nat → Int32) (un : Nat → Int32) : va_W := [(t0, .inr (1, [.ref t1, .int ln, .int pl, .int tk, .int tp])), (t1, .inl (ct, 300, .inl by_)), (a0, .inr (0, [.int sz, .int may, .ref a1, .ref a2, .ref a3])), (a1, .inl (b1, 10, .inl hd)), (a2, .inl (b2, 10, .inl fi)), (a3, .inl (b3, 10, .inl un))]
def tTB (t0 : Nat) (t1 : Nat) (ct : ClassId) (a0 : Nat) (a1 : Nat) (a2 : Nat) (a3 : Nat) (b1 : ClassId) (b2 : ClassId) (b3 : ClassId) : List (ClassId × FieldType) := [(ct, .byte), (b1, .int), (b2, .int), (b3, .int)]

def s_X1_isLetter (value : Int32) : Int32 := (if value < 97 then 0 else (if 122 < value then 0 else 1))
set_option maxHeartbeats 4000000 in
set_option maxRecDepth 100000 in
theorem c_X1_isLetter (l : Launch) (D : va_G) (value : Int32) (sz : Nat) : Met l yX1_isLetter wsX1_isLetter ({ frames := 0, cells := 0, slots := 0, locals := 0 }) (va_Pc [.int value] (cPre D ([] : List (ClassId × FieldType)) ([] : va_W) sz)) (va_Qi (fun r (_ : Unit) => r = s_X1_isLetter value) (fun _ _ => True) (fun q => sz ≤ q)) 0 0 (fun q => sz ≤ q) := by
  refine Met.ofW (cc := cX1_isLetter) (maxL := 1) (ret := (some .boolean)) (by decide) rfl ?_
  intro p e s m args below meth c s₁ B hml hv
  obtain ⟨rfl, hsz, hP, hK, hD, hN⟩ := hv
  have hx := B.exec
  have hb := B.bytes
  have hr := B.returns
  have hts := atoms_spec (ws := wsX1_isLetter) B.pre
  have hown : s.vm.findClass RX1 = some m.cls := findClass_of_methodNamed B.named
  have hlocks := B.notSynchronized
  subst hsz
  obtain ⟨A, hAe⟩ : ∃ A : Nat → Prop, A = (fun q : Nat => s.heap.size ≤ q) := ⟨_, rfl⟩
  have hA : ∀ q : Nat, s.heap.size ≤ q → A q := fun q h => by rw [hAe]; exact h
  have hS : va_S A s.heap s.heap [] := va_S.rf
  subst hAe
  have hl := lv_entry ([.int value]) (n := 1) (Nat.le_of_ble_eq_true rfl)
  rw [lg_entry_eq]
  generalize (lg_sl ([.int value]) ++ List.replicate (1 - (lg_sl ([.int value])).length) Slot.unset).toArray = ls at hl ⊢
  replace hl : lv_has ls 1 [(0, .int value)] := hl
  have hKe := hK.sub (tys' := []) [] rfl
  refine lv_iload_n hx hb dX1_isLetter_0 rfl (lv_at hl 0 rfl) ?_
  refine lv_bipush (v := 97) hx hb dX1_isLetter_1 (by decide) ?_
  refine lv_icmp_lt (tgt := 16) hx hb dX1_isLetter_3 (by decide) (fun c_3_1 => ?_) (fun c_3_1 => ?_)
  · refine lv_iconst (v := 0) hx hb dX1_isLetter_16 (by decide) ?_
    exact ro_zret hx hb hr hS hlocks (show s_X1_isLetter value = 0 from by (unfold s_X1_isLetter; (try dsimp only); (try rw [if_pos c_3_1]); first | done | rfl)).symm (by decide +kernel) dX1_isLetter_17
  · refine lv_iload_n hx hb dX1_isLetter_6 rfl (lv_at hl 0 rfl) ?_
    refine lv_bipush (v := 122) hx hb dX1_isLetter_7 (by decide) ?_
    refine lv_icmp_gt (tgt := 16) hx hb dX1_isLetter_9 (by decide) (fun c_9_2 => ?_) (fun c_9_2 => ?_)
    · refine lv_iconst (v := 0) hx hb dX1_isLetter_16 (by decide) ?_
      exact ro_zret hx hb hr hS hlocks (show s_X1_isLetter value = 0 from by (unfold s_X1_isLetter; (try dsimp only); (try rw [if_neg c_3_1]); (try rw [if_pos c_9_2]); first | done | rfl)).symm (by decide +kernel) dX1_isLetter_17
    · refine lv_iconst (v := 1) hx hb dX1_isLetter_12 (by decide) ?_
      refine lv_goto (tgt := 17) hx hb dX1_isLetter_13 (by decide) ?_
      exact ro_zret hx hb hr hS hlocks (show s_X1_isLetter value = 1 from by (unfold s_X1_isLetter; (try dsimp only); (try rw [if_neg c_3_1]); (try rw [if_neg c_9_2]); first | done | rfl)).symm (by decide +kernel) dX1_isLetter_17

def s_X1_tokenOf (word : Int64) : Int32 := (if (lg_cmp word 97) < 0 then (if (lg_cmp word 26982) = 0 then 8 else (if (lg_cmp word 129117125440371) = 0 then 9 else (if (lg_cmp word 474148660594) = 0 then 10 else (if (lg_cmp word 7168377) = 0 then 11 else 14)))) else (if 0 ≤ (lg_cmp word 105) then (if (lg_cmp word 26982) = 0 then 8 else (if (lg_cmp word 129117125440371) = 0 then 9 else (if (lg_cmp word 474148660594) = 0 then 10 else (if (lg_cmp word 7168377) = 0 then 11 else 14)))) else (((word - 97) : Int64).toInt32)))
set_option maxHeartbeats 4000000 in
set_option maxRecDepth 100000 in
theorem c_X1_tokenOf (l : Launch) (D : va_G) (word : Int64) (sz : Nat) : Met l yX1_tokenOf wsX1_tokenOf ({ frames := 0, cells := 0, slots := 0, locals := 0 }) (va_Pc [.long word] (cPre D ([] : List (ClassId × FieldType)) ([] : va_W) sz)) (va_Qi (fun r (_ : Unit) => r = s_X1_tokenOf word) (fun _ _ => True) (fun q => sz ≤ q)) 0 0 (fun q => sz ≤ q) := by
  refine Met.ofW (cc := cX1_tokenOf) (maxL := 2) (ret := (some .int)) (by decide) rfl ?_
  intro p e s m args below meth c s₁ B hml hv
  obtain ⟨rfl, hsz, hP, hK, hD, hN⟩ := hv
  have hx := B.exec
  have hb := B.bytes
  have hr := B.returns
  have hts := atoms_spec (ws := wsX1_tokenOf) B.pre
  have hown : s.vm.findClass RX1 = some m.cls := findClass_of_methodNamed B.named
  have hlocks := B.notSynchronized
  subst hsz
  obtain ⟨A, hAe⟩ : ∃ A : Nat → Prop, A = (fun q : Nat => s.heap.size ≤ q) := ⟨_, rfl⟩
  have hA : ∀ q : Nat, s.heap.size ≤ q → A q := fun q h => by rw [hAe]; exact h
  have hS : va_S A s.heap s.heap [] := va_S.rf
  subst hAe
  have hl := lv_entry ([.long word]) (n := 2) (Nat.le_of_ble_eq_true rfl)
  rw [lg_entry_eq]
  generalize (lg_sl ([.long word]) ++ List.replicate (2 - (lg_sl ([.long word])).length) Slot.unset).toArray = ls at hl ⊢
  replace hl : lv_has ls 2 [(0, .long word)] := hl
  have hKe := hK.sub (tys' := []) [] rfl
  refine lv_lload_n hx hb dX1_tokenOf_0 rfl (lv_at hl 0 rfl) ?_
  refine lv_ldc2 (v := 97) hx hb hown (hts (.constantLong RX1 76 (97)) (by decide +kernel)) dX1_tokenOf_1 ?_
  refine W.lcmp hx hb dX1_tokenOf_4 ?_
  refine lv_if_lt (tgt := 23) hx hb dX1_tokenOf_5 (by decide) (fun c_5_1 => ?_) (fun c_5_1 => ?_)
  · refine lv_lload_n hx hb dX1_tokenOf_23 rfl (lv_at hl 0 rfl) ?_
    refine lv_ldc2 (v := 26982) hx hb hown (hts (.constantLong RX1 80 (26982)) (by decide +kernel)) dX1_tokenOf_24 ?_
    refine W.lcmp hx hb dX1_tokenOf_27 ?_
    refine lv_if_ne (tgt := 34) hx hb dX1_tokenOf_28 (by decide) (fun c_28_2 => ?_) (fun c_28_2 => ?_)
    · refine lv_lload_n hx hb dX1_tokenOf_34 rfl (lv_at hl 0 rfl) ?_
      refine lv_ldc2 (v := 129117125440371) hx hb hown (hts (.constantLong RX1 82 (129117125440371)) (by decide +kernel)) dX1_tokenOf_35 ?_
      refine W.lcmp hx hb dX1_tokenOf_38 ?_
      refine lv_if_ne (tgt := 45) hx hb dX1_tokenOf_39 (by decide) (fun c_39_3 => ?_) (fun c_39_3 => ?_)
      · refine lv_lload_n hx hb dX1_tokenOf_45 rfl (lv_at hl 0 rfl) ?_
        refine lv_ldc2 (v := 474148660594) hx hb hown (hts (.constantLong RX1 84 (474148660594)) (by decide +kernel)) dX1_tokenOf_46 ?_
        refine W.lcmp hx hb dX1_tokenOf_49 ?_
        refine lv_if_ne (tgt := 56) hx hb dX1_tokenOf_50 (by decide) (fun c_50_4 => ?_) (fun c_50_4 => ?_)
        · refine lv_lload_n hx hb dX1_tokenOf_56 rfl (lv_at hl 0 rfl) ?_
          refine lv_ldc2 (v := 7168377) hx hb hown (hts (.constantLong RX1 86 (7168377)) (by decide +kernel)) dX1_tokenOf_57 ?_
          refine W.lcmp hx hb dX1_tokenOf_60 ?_
          refine lv_if_ne (tgt := 69) hx hb dX1_tokenOf_61 (by decide) (fun c_61_5 => ?_) (fun c_61_5 => ?_)
          · refine lv_bipush (v := 14) hx hb dX1_tokenOf_69 (by decide) ?_
            exact ro_iret hx hb hr hS hlocks (show s_X1_tokenOf word = 14 from by (unfold s_X1_tokenOf; (try dsimp only); (try rw [if_pos c_5_1]); (try rw [if_neg c_28_2]); (try rw [if_neg c_39_3]); (try rw [if_neg c_50_4]); (try rw [if_neg c_61_5]); first | done | rfl)).symm dX1_tokenOf_71
          · refine lv_bipush (v := 11) hx hb dX1_tokenOf_64 (by decide) ?_
            refine lv_goto (tgt := 71) hx hb dX1_tokenOf_66 (by decide) ?_
            exact ro_iret hx hb hr hS hlocks (show s_X1_tokenOf word = 11 from by (unfold s_X1_tokenOf; (try dsimp only); (try rw [if_pos c_5_1]); (try rw [if_neg c_28_2]); (try rw [if_neg c_39_3]); (try rw [if_neg c_50_4]); (try rw [if_pos c_61_5]); first | done | rfl)).symm dX1_tokenOf_71
        · refine lv_bipush (v := 10) hx hb dX1_tokenOf_53 (by decide) ?_
          exact ro_iret hx hb hr hS hlocks (show s_X1_tokenOf word = 10 from by (unfold s_X1_tokenOf; (try dsimp only); (try rw [if_pos c_5_1]); (try rw [if_neg c_28_2]); (try rw [if_neg c_39_3]); (try rw [if_pos c_50_4]); first | done | rfl)).symm dX1_tokenOf_55
      · refine lv_bipush (v := 9) hx hb dX1_tokenOf_42 (by decide) ?_
        exact ro_iret hx hb hr hS hlocks (show s_X1_tokenOf word = 9 from by (unfold s_X1_tokenOf; (try dsimp only); (try rw [if_pos c_5_1]); (try rw [if_neg c_28_2]); (try rw [if_pos c_39_3]); first | done | rfl)).symm dX1_tokenOf_44
    · refine lv_bipush (v := 8) hx hb dX1_tokenOf_31 (by decide) ?_
      exact ro_iret hx hb hr hS hlocks (show s_X1_tokenOf word = 8 from by (unfold s_X1_tokenOf; (try dsimp only); (try rw [if_pos c_5_1]); (try rw [if_pos c_28_2]); first | done | rfl)).symm dX1_tokenOf_33
  · refine lv_lload_n hx hb dX1_tokenOf_8 rfl (lv_at hl 0 rfl) ?_
    refine lv_ldc2 (v := 105) hx hb hown (hts (.constantLong RX1 78 (105)) (by decide +kernel)) dX1_tokenOf_9 ?_
    refine W.lcmp hx hb dX1_tokenOf_12 ?_
    refine lv_if_ge (tgt := 23) hx hb dX1_tokenOf_13 (by decide) (fun c_13_6 => ?_) (fun c_13_6 => ?_)
    · refine lv_lload_n hx hb dX1_tokenOf_23 rfl (lv_at hl 0 rfl) ?_
      refine lv_ldc2 (v := 26982) hx hb hown (hts (.constantLong RX1 80 (26982)) (by decide +kernel)) dX1_tokenOf_24 ?_
      refine W.lcmp hx hb dX1_tokenOf_27 ?_
      refine lv_if_ne (tgt := 34) hx hb dX1_tokenOf_28 (by decide) (fun c_28_7 => ?_) (fun c_28_7 => ?_)
      · refine lv_lload_n hx hb dX1_tokenOf_34 rfl (lv_at hl 0 rfl) ?_
        refine lv_ldc2 (v := 129117125440371) hx hb hown (hts (.constantLong RX1 82 (129117125440371)) (by decide +kernel)) dX1_tokenOf_35 ?_
        refine W.lcmp hx hb dX1_tokenOf_38 ?_
        refine lv_if_ne (tgt := 45) hx hb dX1_tokenOf_39 (by decide) (fun c_39_8 => ?_) (fun c_39_8 => ?_)
        · refine lv_lload_n hx hb dX1_tokenOf_45 rfl (lv_at hl 0 rfl) ?_
          refine lv_ldc2 (v := 474148660594) hx hb hown (hts (.constantLong RX1 84 (474148660594)) (by decide +kernel)) dX1_tokenOf_46 ?_
          refine W.lcmp hx hb dX1_tokenOf_49 ?_
          refine lv_if_ne (tgt := 56) hx hb dX1_tokenOf_50 (by decide) (fun c_50_9 => ?_) (fun c_50_9 => ?_)
          · refine lv_lload_n hx hb dX1_tokenOf_56 rfl (lv_at hl 0 rfl) ?_
            refine lv_ldc2 (v := 7168377) hx hb hown (hts (.constantLong RX1 86 (7168377)) (by decide +kernel)) dX1_tokenOf_57 ?_
            refine W.lcmp hx hb dX1_tokenOf_60 ?_
            refine lv_if_ne (tgt := 69) hx hb dX1_tokenOf_61 (by decide) (fun c_61_10 => ?_) (fun c_61_10 => ?_)
            · refine lv_bipush (v := 14) hx hb dX1_tokenOf_69 (by decide) ?_
              exact ro_iret hx hb hr hS hlocks (show s_X1_tokenOf word = 14 from by (unfold s_X1_tokenOf; (try dsimp only); (try rw [if_neg c_5_1]); (try rw [if_pos c_13_6]); (try rw [if_neg c_28_7]); (try rw [if_neg c_39_8]); (try rw [if_neg c_50_9]); (try rw [if_neg c_61_10]); first | done | rfl)).symm dX1_tokenOf_71
            · refine lv_bipush (v := 11) hx hb dX1_tokenOf_64 (by decide) ?_
              refine lv_goto (tgt := 71) hx hb dX1_tokenOf_66 (by decide) ?_
              exact ro_iret hx hb hr hS hlocks (show s_X1_tokenOf word = 11 from by (unfold s_X1_tokenOf; (try dsimp only); (try rw [if_neg c_5_1]); (try rw [if_pos c_13_6]); (try rw [if_neg c_28_7]); (try rw [if_neg c_39_8]); (try rw [if_neg c_50_9]); (try rw [if_pos c_61_10]); first | done | rfl)).symm dX1_tokenOf_71
          · refine lv_bipush (v := 10) hx hb dX1_tokenOf_53 (by decide) ?_
            exact ro_iret hx hb hr hS hlocks (show s_X1_tokenOf word = 10 from by (unfold s_X1_tokenOf; (try dsimp only); (try rw [if_neg c_5_1]); (try rw [if_pos c_13_6]); (try rw [if_neg c_28_7]); (try rw [if_neg c_39_8]); (try rw [if_pos c_50_9]); first | done | rfl)).symm dX1_tokenOf_55
        · refine lv_bipush (v := 9) hx hb dX1_tokenOf_42 (by decide) ?_
          exact ro_iret hx hb hr hS hlocks (show s_X1_tokenOf word = 9 from by (unfold s_X1_tokenOf; (try dsimp only); (try rw [if_neg c_5_1]); (try rw [if_pos c_13_6]); (try rw [if_neg c_28_7]); (try rw [if_pos c_39_8]); first | done | rfl)).symm dX1_tokenOf_44
      · refine lv_bipush (v := 8) hx hb dX1_tokenOf_31 (by decide) ?_
        exact ro_iret hx hb hr hS hlocks (show s_X1_tokenOf word = 8 from by (unfold s_X1_tokenOf; (try dsimp only); (try rw [if_neg c_5_1]); (try rw [if_pos c_13_6]); (try rw [if_pos c_28_7]); first | done | rfl)).symm dX1_tokenOf_33
    · refine lv_lload_n hx hb dX1_tokenOf_16 rfl (lv_at hl 0 rfl) ?_
      refine lv_ldc2 (v := 97) hx hb hown (hts (.constantLong RX1 76 (97)) (by decide +kernel)) dX1_tokenOf_17 ?_
      refine lv_lsub hx hb dX1_tokenOf_20 ?_
      refine lv_l2i hx hb dX1_tokenOf_21 rfl ?_
      exact ro_iret hx hb hr hS hlocks (show s_X1_tokenOf word = (((word - 97) : Int64).toInt32) from by (unfold s_X1_tokenOf; (try dsimp only); (try rw [if_neg c_5_1]); (try rw [if_neg c_13_6]); first | done | rfl)).symm dX1_tokenOf_22

def s_X1_byteAt (by_ : Nat → Int32) (index : Int32) : Int32 := (if index < 0 then 0 else (if 300 ≤ index then 0 else ((by_ index.toNatClampNeg) &&& 255)))
set_option maxHeartbeats 4000000 in
set_option maxRecDepth 100000 in
theorem c_X1_byteAt (l : Launch) (D : va_G) (t0 : Nat) (t1 : Nat) (ct : ClassId) (by_ : Nat → Int32) (ln : Int32) (pl : Int32) (tk : Int32) (tp : Int32) (index : Int32) (sz : Nat) : Met l yX1_byteAt wsX1_byteAt ({ frames := 0, cells := 0, slots := 0, locals := 0 }) (va_Pc [.ref t0, .int index] (cPre D (tT t0 t1 ct) (wT t0 t1 ct by_ ln pl tk tp) sz)) (va_Qi (fun r (_ : Unit) => r = s_X1_byteAt by_ index) (fun _ _ => True) (fun q => sz ≤ q)) 0 0 (fun q => sz ≤ q) := by
  refine Met.ofW (cc := cX1_byteAt) (maxL := 2) (ret := (some .int)) (by decide) rfl ?_
  intro p e s m args below meth c s₁ B hml hv
  obtain ⟨rfl, hsz, hP, hK, hD, hN⟩ := hv
  have hx := B.exec
  have hb := B.bytes
  have hr := B.returns
  have hts := atoms_spec (ws := wsX1_byteAt) B.pre
  have hown : s.vm.findClass RX1 = some m.cls := findClass_of_methodNamed B.named
  have hlocks := B.notSynchronized
  have hinX1 : ∀ w ∈ wsX10, w ∈ wsX1_byteAt := fun w h => List.mem_cons_of_mem _ (List.mem_append_right _ h)
  subst hsz
  obtain ⟨A, hAe⟩ : ∃ A : Nat → Prop, A = (fun q : Nat => s.heap.size ≤ q) := ⟨_, rfl⟩
  have hA : ∀ q : Nat, s.heap.size ≤ q → A q := fun q h => by rw [hAe]; exact h
  have hS : va_S A s.heap s.heap [] := va_S.rf
  subst hAe
  have hl := lv_entry ([.ref t0, .int index]) (n := 2) (Nat.le_of_ble_eq_true rfl)
  rw [lg_entry_eq]
  generalize (lg_sl ([.ref t0, .int index]) ++ List.replicate (2 - (lg_sl ([.ref t0, .int index])).length) Slot.unset).toArray = ls at hl ⊢
  replace hl : lv_has ls 2 [(0, .ref t0), (1, .int index)] := hl
  have hKe := hK.sub (tys' := []) [] rfl
  refine lv_iload_n hx hb dX1_byteAt_0 rfl (lv_at hl 1 rfl) ?_
  refine lv_if_lt (tgt := 24) hx hb dX1_byteAt_1 (by decide) (fun c_1_1 => ?_) (fun c_1_1 => ?_)
  · refine lv_iconst (v := 0) hx hb dX1_byteAt_24 (by decide) ?_
    exact ro_iret hx hb hr hS hlocks (show s_X1_byteAt by_ index = 0 from by (unfold s_X1_byteAt; (try dsimp only); (try rw [if_pos c_1_1]); first | done | rfl)).symm dX1_byteAt_25
  · refine lv_iload_n hx hb dX1_byteAt_4 rfl (lv_at hl 1 rfl) ?_
    refine lv_sipush (v := 300) hx hb dX1_byteAt_5 (by decide) ?_
    refine lv_icmp_ge (tgt := 24) hx hb dX1_byteAt_8 (by decide) (fun c_8_2 => ?_) (fun c_8_2 => ?_)
    · refine lv_iconst (v := 0) hx hb dX1_byteAt_24 (by decide) ?_
      exact ro_iret hx hb hr hS hlocks (show s_X1_byteAt by_ index = 0 from by (unfold s_X1_byteAt; (try dsimp only); (try rw [if_neg c_1_1]); (try rw [if_pos c_8_2]); first | done | rfl)).symm dX1_byteAt_25
    · refine lv_aload_n hx hb dX1_byteAt_11 rfl (lv_at hl 0 rfl) ?_
      refine va_get (D := D) (ci := 1) (v := .ref t1) (C := RX1) (T := TX1) (N := 5) hx hb hts hinX1 hown hK hP 0 rfl rfl 0 (by decide) (hts (.fieldLink RX1 9 "HoldUnless$Text" "bytes" "[B") (by decide +kernel)) (fun _ h9 => h9) rfl dX1_byteAt_12 ?_
      refine lv_iload_n hx hb dX1_byteAt_15 rfl (lv_at hl 1 rfl) ?_
      refine va_bald hx hb hK hP 1 0 rfl rfl ((vp_of (by decide) c_1_1 c_8_2)) dX1_byteAt_16 ?_
      refine lv_sipush (v := 255) hx hb dX1_byteAt_17 (by decide) ?_
      refine lv_iand hx hb dX1_byteAt_20 ?_
      refine lv_goto (tgt := 25) hx hb dX1_byteAt_21 (by decide) ?_
      exact ro_iret hx hb hr hS hlocks (show s_X1_byteAt by_ index = ((by_ index.toNatClampNeg) &&& 255) from by (unfold s_X1_byteAt; (try dsimp only); (try rw [if_neg c_1_1]); (try rw [if_neg c_8_2]); first | done | rfl)).symm dX1_byteAt_25

def s_X1_append (by_ : Nat → Int32) (ln : Int32) (next : Int32) : (Nat → Int32) × Int32 := (if ln < 0 then (by_, ln) else (if 300 ≤ ln then (by_, ln) else ((upd by_ ln.toNatClampNeg (vp_nar .byte next)), (ln + 1))))
set_option maxHeartbeats 4000000 in
set_option maxRecDepth 100000 in
theorem c_X1_append (l : Launch) (D : va_G) (t0 : Nat) (t1 : Nat) (ct : ClassId) (by_ : Nat → Int32) (ln : Int32) (pl : Int32) (tk : Int32) (tp : Int32) (next : Int32) (sz : Nat) : Met l yX1_append wsX1_append ({ frames := 0, cells := 0, slots := 0, locals := 0 }) (va_Pc [.ref t0, .int next] (cPre D (tT t0 t1 ct) (wT t0 t1 ct by_ ln pl tk tp) sz)) (va_Qv (fun (u : (Nat → Int32) × Int32) => (u.1, u.2) = s_X1_append by_ ln next) (rwB D (fun u : (Nat → Int32) × Int32 => (wT t0 t1 ct u.1 u.2 pl tk tp)) (va_A (wT t0 t1 ct by_ ln pl tk tp) sz)) (va_A (wT t0 t1 ct by_ ln pl tk tp) sz)) 0 0 (va_A (wT t0 t1 ct by_ ln pl tk tp) sz) := by
  refine Met.ofW (cc := cX1_append) (maxL := 2) (ret := none) (by decide) rfl ?_
  intro p e s m args below meth c s₁ B hml hv
  obtain ⟨rfl, hsz, hP, hK, hD, hN⟩ := hv
  have hx := B.exec
  have hb := B.bytes
  have hr := B.returns
  have hts := atoms_spec (ws := wsX1_append) B.pre
  have hown : s.vm.findClass RX1 = some m.cls := findClass_of_methodNamed B.named
  have hlocks := B.notSynchronized
  have hinX1 : ∀ w ∈ wsX10, w ∈ wsX1_append := fun w h => List.mem_cons_of_mem _ (List.mem_append_right _ h)
  subst hsz
  replace hD := hD.self (sz := s.heap.size)
  generalize hAe : va_A (wT t0 t1 ct by_ ln pl tk tp) s.heap.size = A at hD ⊢
  have hA : ∀ q : Nat, s.heap.size ≤ q → A q := fun q h => by rw [← hAe]; exact Or.inr h
  have hS : va_S A s.heap s.heap [] := va_S.rf
  have hl := lv_entry ([.ref t0, .int next]) (n := 2) (Nat.le_of_ble_eq_true rfl)
  rw [lg_entry_eq]
  generalize (lg_sl ([.ref t0, .int next]) ++ List.replicate (2 - (lg_sl ([.ref t0, .int next])).length) Slot.unset).toArray = ls at hl ⊢
  replace hl : lv_has ls 2 [(0, .ref t0), (1, .int next)] := hl
  have hKe := hK.sub (tys' := []) [] rfl
  refine lv_aload_n hx hb dX1_append_0 rfl (lv_at hl 0 rfl) ?_
  refine va_get (D := D) (ci := 1) (v := .int ln) (C := RX1) (T := TX1) (N := 5) hx hb hts hinX1 hown hK hP 0 rfl rfl 1 (by decide) (hts (.fieldLink RX1 15 "HoldUnless$Text" "length" "I") (by decide +kernel)) (fun _ h9 => h9) rfl dX1_append_1 ?_
  refine lv_if_lt (tgt := 37) hx hb dX1_append_4 (by decide) (fun c_4_1 => ?_) (fun c_4_1 => ?_)
  · exact rw_vret hx hb hr hS hlocks (by_, ln) (show s_X1_append by_ ln next = (by_, ln) from by (unfold s_X1_append; (try dsimp only); (try rw [if_pos c_4_1]); first | done | rfl)).symm hP hD dX1_append_37
  · refine lv_aload_n hx hb dX1_append_7 rfl (lv_at hl 0 rfl) ?_
    refine va_get (D := D) (ci := 1) (v := .int ln) (C := RX1) (T := TX1) (N := 5) hx hb hts hinX1 hown hK hP 0 rfl rfl 1 (by decide) (hts (.fieldLink RX1 15 "HoldUnless$Text" "length" "I") (by decide +kernel)) (fun _ h9 => h9) rfl dX1_append_8 ?_
    refine lv_sipush (v := 300) hx hb dX1_append_11 (by decide) ?_
    refine lv_icmp_ge (tgt := 37) hx hb dX1_append_14 (by decide) (fun c_14_2 => ?_) (fun c_14_2 => ?_)
    · exact rw_vret hx hb hr hS hlocks (by_, ln) (show s_X1_append by_ ln next = (by_, ln) from by (unfold s_X1_append; (try dsimp only); (try rw [if_neg c_4_1]); (try rw [if_pos c_14_2]); first | done | rfl)).symm hP hD dX1_append_37
    · refine lv_aload_n hx hb dX1_append_17 rfl (lv_at hl 0 rfl) ?_
      refine va_get (D := D) (ci := 1) (v := .ref t1) (C := RX1) (T := TX1) (N := 5) hx hb hts hinX1 hown hK hP 0 rfl rfl 0 (by decide) (hts (.fieldLink RX1 9 "HoldUnless$Text" "bytes" "[B") (by decide +kernel)) (fun _ h9 => h9) rfl dX1_append_18 ?_
      refine lv_aload_n hx hb dX1_append_21 rfl (lv_at hl 0 rfl) ?_
      refine va_get (D := D) (ci := 1) (v := .int ln) (C := RX1) (T := TX1) (N := 5) hx hb hts hinX1 hown hK hP 0 rfl rfl 1 (by decide) (hts (.fieldLink RX1 15 "HoldUnless$Text" "length" "I") (by decide +kernel)) (fun _ h9 => h9) rfl dX1_append_22 ?_
      refine lv_iload_n hx hb dX1_append_25 rfl (lv_at hl 1 rfl) ?_
      refine va_bast hx hb hK hP hD hS 1 0 rfl rfl ((vp_of (by decide) c_4_1 c_14_2)) dX1_append_26 (fun H locs hP hD hS => ?_)
      replace hP : va_P D vwCl (wT t0 t1 ct (upd by_ ln.toNatClampNeg (vp_nar .byte next)) ln pl tk tp) H := hP
      replace hD : va_D A (wT t0 t1 ct (upd by_ ln.toNatClampNeg (vp_nar .byte next)) ln pl tk tp) := hD
      refine lv_aload_n hx hb dX1_append_27 rfl (lv_at hl 0 rfl) ?_
      refine lv_dup hx hb dX1_append_28 rfl ?_
      refine va_get (D := D) (ci := 1) (v := .int ln) (C := RX1) (T := TX1) (N := 5) hx hb hts hinX1 hown hK hP 0 rfl rfl 1 (by decide) (hts (.fieldLink RX1 15 "HoldUnless$Text" "length" "I") (by decide +kernel)) (fun _ h9 => h9) rfl dX1_append_29 ?_
      refine lv_iconst (v := 1) hx hb dX1_append_32 (by decide) ?_
      refine lv_iadd hx hb dX1_append_33 ?_
      refine va_put (D := D) (ci := 1) (v := .int (ln + 1)) (ty := .int) (C := RX1) (T := TX1) (N := 5) hx hb hts hinX1 tyX1 tyX1_ok nmX1 hown hK hP hD hS 0 rfl rfl 1 (by decide) (hts (.fieldLink RX1 15 "HoldUnless$Text" "length" "I") (by decide +kernel)) (fun _ h9 => h9) rfl (by decide +kernel) rfl rfl (Nat.le_of_ble_eq_true rfl) dX1_append_34 (fun H locs hP hD hS => ?_)
      replace hP : va_P D vwCl (wT t0 t1 ct (upd by_ ln.toNatClampNeg (vp_nar .byte next)) (ln + 1) pl tk tp) H := hP
      replace hD : va_D A (wT t0 t1 ct (upd by_ ln.toNatClampNeg (vp_nar .byte next)) (ln + 1) pl tk tp) := hD
      exact rw_vret hx hb hr hS hlocks ((upd by_ ln.toNatClampNeg (vp_nar .byte next)), (ln + 1)) (show s_X1_append by_ ln next = ((upd by_ ln.toNatClampNeg (vp_nar .byte next)), (ln + 1)) from by (unfold s_X1_append; (try dsimp only); (try rw [if_neg c_4_1]); (try rw [if_neg c_14_2]); first | done | rfl)).symm hP hD dX1_append_37

def f_X1_readWord_2 (by_ : Nat → Int32) (q : Nat) (j2 : Nat) (st : Int64) : (Nat × Int32) ⊕ (Int64) := match st with | word => (if (s_X1_isLetter (s_X1_byteAt by_ (nI (q + j2)))) = 0 then (.inl ((q + j2), (s_X1_tokenOf word))) else (.inr ((word <<< (((8 : Int32).toInt64) &&& 63)) ||| (((s_X1_byteAt by_ (nI (q + j2))) : Int32).toInt64))))
def s_X1_readWord (by_ : Nat → Int32) (len : Nat) (q : Nat) : Nat × Int32 := (onE (itE (f_X1_readWord_2 by_ q) 0 (len - q)) (fun st => match st with | word => ((q + (len - q)), (s_X1_tokenOf word))))
set_option maxHeartbeats 4000000 in
set_option maxRecDepth 100000 in
theorem c_X1_readWord (l : Launch) (D : va_G) (t0 : Nat) (t1 : Nat) (ct : ClassId) (len : Nat) (q : Nat) (by_ : Nat → Int32) (tk : Int32) (tp : Int32) (hq : q ≤ len) (hlen : len ≤ 300) (sz : Nat) : Met l yX1_readWord wsX1_readWord ({ frames := 1, cells := 0, slots := 0, locals := 21 }) (va_Pc [.ref t0] (cPre D (tT t0 t1 ct) (wT t0 t1 ct by_ (nI len) (nI q) tk tp) sz)) (va_Qv (fun (u : Nat × Int32) => (u.1, u.2) = s_X1_readWord by_ len q ∧ (u.1 ≤ len)) (rwB D (fun u : Nat × Int32 => (wT t0 t1 ct by_ (nI len) (nI u.1) u.2 tp)) (va_A (wT t0 t1 ct by_ (nI len) (nI q) tk tp) sz)) (va_A (wT t0 t1 ct by_ (nI len) (nI q) tk tp) sz)) 0 0 (va_A (wT t0 t1 ct by_ (nI len) (nI q) tk tp) sz) := by
  refine Met.ofW (cc := cX1_readWord) (maxL := 3) (ret := none) (by decide) rfl ?_
  intro p e s m args below meth c s₁ B hml hv
  obtain ⟨rfl, hsz, hP, hK, hD, hN⟩ := hv
  have hx := B.exec
  have hb := B.bytes
  have hr := B.returns
  have hts := atoms_spec (ws := wsX1_readWord) B.pre
  have hown : s.vm.findClass RX1 = some m.cls := findClass_of_methodNamed B.named
  have hlocks := B.notSynchronized
  have hinX1 : ∀ w ∈ wsX10, w ∈ wsX1_readWord := fun w h => List.mem_cons_of_mem _ (List.mem_append_right _ h)
  subst hsz
  replace hD := hD.self (sz := s.heap.size)
  generalize hAe : va_A (wT t0 t1 ct by_ (nI len) (nI q) tk tp) s.heap.size = A at hD ⊢
  have hA : ∀ q : Nat, s.heap.size ≤ q → A q := fun q h => by rw [← hAe]; exact Or.inr h
  have hS : va_S A s.heap s.heap [] := va_S.rf
  have hl := lv_entry ([.ref t0]) (n := 3) (Nat.le_of_ble_eq_true rfl)
  rw [lg_entry_eq]
  generalize (lg_sl ([.ref t0]) ++ List.replicate (3 - (lg_sl ([.ref t0])).length) Slot.unset).toArray = ls at hl ⊢
  replace hl : lv_has ls 3 [(0, .ref t0)] := hl
  have hKe := hK.sub (tys' := []) [] rfl
  refine lv_lconst (v := 0) hx hb dX1_readWord_0 (by decide) ?_
  refine lv_lstore_n (lv' := [(1, .long 0), (0, .ref t0)]) hx hb dX1_readWord_1 rfl hl (by decide) rfl (fun ls hl => ?_)
  have lp2_1 : ∀ (z_1 j2 : Nat), j2 + z_1 = len - q → ∀ (word : Int64), itE (f_X1_readWord_2 by_ q) 0 j2 = .inr word → ∀  (H : Heap) (locs : List Loc), va_P D vwCl (wT t0 t1 ct by_ (nI len) (nI (q + j2)) tk tp) H → va_D A (wT t0 t1 ct by_ (nI len) (nI (q + j2)) tk tp) → va_S A s.heap H locs → ∀ ls : Array Slot, lv_has ls 3 [(0, .ref t0), (1, .long word)] → W p l e (headSpec wsX1_readWord ({ frames := 1, cells := 0, slots := 0, locals := 21 })).room s m ([.ref t0] : List Value).toArray below meth c H locs 0 0 (MQ below (va_Qv (fun (u : Nat × Int32) => (u.1, u.2) = s_X1_readWord by_ len q ∧ (u.1 ≤ len)) (rwB D (fun u : Nat × Int32 => (wT t0 t1 ct by_ (nI len) (nI u.1) u.2 tp)) A) A) ([.ref t0] : List Value).toArray s 0 0 A) (F0 m 2 ls []) := by
    intro z_1
    induction z_1 with
    | zero =>
      intro j2 hj2 word he2   H locs hP hD hS ls hl
      obtain rfl : len - q = j2 := by omega
      refine lv_aload_n hx hb dX1_readWord_2 rfl (lv_at hl 0 rfl) ?_
      refine va_get (D := D) (ci := 1) (v := .int (nI (q + (len - q)))) (C := RX1) (T := TX1) (N := 5) hx hb hts hinX1 hown hK hP 0 rfl rfl 2 (by decide) (hts (.fieldLink RX1 24 "HoldUnless$Text" "place" "I") (by decide +kernel)) (fun _ h9 => h9) rfl dX1_readWord_3 ?_
      refine lv_aload_n hx hb dX1_readWord_6 rfl (lv_at hl 0 rfl) ?_
      refine va_get (D := D) (ci := 1) (v := .int (nI len)) (C := RX1) (T := TX1) (N := 5) hx hb hts hinX1 hown hK hP 0 rfl rfl 1 (by decide) (hts (.fieldLink RX1 15 "HoldUnless$Text" "length" "I") (by decide +kernel)) (fun _ h9 => h9) rfl dX1_readWord_7 ?_
      refine lv_icmp_ge (tgt := 55) hx hb dX1_readWord_10 (by decide) (fun _ => ?_) (fun hh_3 => absurd (nI_le (a := len) (b := q + (len - q)) (by omega) (by omega)) hh_3)
      refine lv_aload_n hx hb dX1_readWord_55 rfl (lv_at hl 0 rfl) ?_
      refine lv_lload_n hx hb dX1_readWord_56 rfl (lv_at hl 1 rfl) ?_
      refine ro_i (D := D) (va_runS (As := [.long word]) (rest := [.ref t0]) ⟨hx, hb, hml, hown, hts⟩ (c_X1_tokenOf l D word  _) (va_cwS 1 hts gX1_readWord_X1_tokenOf rfl rfl rfl (by decide +kernel) ⟨Nat.le_of_ble_eq_true rfl, Nat.le_of_ble_eq_true rfl⟩) ⟨cPre.blind, cPre.mk vP0 hKe vD0 hN⟩ rfl rfl hl.1 rfl (lv_room (Nat.le_of_ble_eq_true rfl)) dX1_readWord_57 ⟨Nat.zero_le _, Nat.zero_le _⟩) hS hA (fun H locs hkp0 hS => ?_)
      replace hP := hkp0 _ hP
      refine va_put (D := D) (ci := 1) (v := .int (s_X1_tokenOf word)) (ty := .int) (C := RX1) (T := TX1) (N := 5) hx hb hts hinX1 tyX1 tyX1_ok nmX1 hown hK hP hD hS 0 rfl rfl 3 (by decide) (hts (.fieldLink RX1 30 "HoldUnless$Text" "token" "I") (by decide +kernel)) (fun _ h9 => h9) rfl (by decide +kernel) rfl rfl (Nat.le_of_ble_eq_true rfl) dX1_readWord_60 (fun H locs hP hD hS => ?_)
      replace hP : va_P D vwCl (wT t0 t1 ct by_ (nI len) (nI (q + (len - q))) (s_X1_tokenOf word) tp) H := hP
      replace hD : va_D A (wT t0 t1 ct by_ (nI len) (nI (q + (len - q))) (s_X1_tokenOf word) tp) := hD
      exact rw_vret hx hb hr hS hlocks ((q + (len - q)), (s_X1_tokenOf word)) ⟨(show s_X1_readWord by_ len q = ((q + (len - q)), (s_X1_tokenOf word)) from by (unfold s_X1_readWord; (try dsimp only); (try rw [he2]); (try dsimp only [onE]); first | done | rfl)).symm, (by first | assumption | omega | rfl | exact Or.inl rfl | exact Or.inr (by omega) | (intro h; omega) | (intro h; rcases h with h | h <;> contradiction))⟩ hP hD dX1_readWord_63
    | succ z_1 ih2 =>
      intro j2 hj2 word he2   H locs hP hD hS ls hl
      refine lv_aload_n hx hb dX1_readWord_2 rfl (lv_at hl 0 rfl) ?_
      refine va_get (D := D) (ci := 1) (v := .int (nI (q + j2))) (C := RX1) (T := TX1) (N := 5) hx hb hts hinX1 hown hK hP 0 rfl rfl 2 (by decide) (hts (.fieldLink RX1 24 "HoldUnless$Text" "place" "I") (by decide +kernel)) (fun _ h9 => h9) rfl dX1_readWord_3 ?_
      refine lv_aload_n hx hb dX1_readWord_6 rfl (lv_at hl 0 rfl) ?_
      refine va_get (D := D) (ci := 1) (v := .int (nI len)) (C := RX1) (T := TX1) (N := 5) hx hb hts hinX1 hown hK hP 0 rfl rfl 1 (by decide) (hts (.fieldLink RX1 15 "HoldUnless$Text" "length" "I") (by decide +kernel)) (fun _ h9 => h9) rfl dX1_readWord_7 ?_
      refine lv_icmp_ge (tgt := 55) hx hb dX1_readWord_10 (by decide) (fun hh_5 => absurd hh_5 (nI_ge (a := q + j2) (b := len) (by omega) (by omega))) (fun _ => ?_)
      refine lv_aload_n hx hb dX1_readWord_13 rfl (lv_at hl 0 rfl) ?_
      refine lv_aload_n hx hb dX1_readWord_14 rfl (lv_at hl 0 rfl) ?_
      refine va_get (D := D) (ci := 1) (v := .int (nI (q + j2))) (C := RX1) (T := TX1) (N := 5) hx hb hts hinX1 hown hK hP 0 rfl rfl 2 (by decide) (hts (.fieldLink RX1 24 "HoldUnless$Text" "place" "I") (by decide +kernel)) (fun _ h9 => h9) rfl dX1_readWord_15 ?_
      refine ro_i (D := D) (va_runV (As := [.int (nI (q + j2))]) (rest := []) ⟨hx, hb, hml, hown, hts⟩ (c_X1_byteAt l D t0 t1 ct by_ (nI len) (nI (q + j2)) tk tp (nI (q + j2))  _) (cwV 1 hts gX1_readWord_X1_byteAt rfl rfl rfl (by decide +kernel) ⟨Nat.le_of_ble_eq_true rfl, Nat.le_of_ble_eq_true rfl⟩) ⟨cPre.blind, va_recv hK hP (ci := 1) (q0 := 0) rfl rfl, cPre.mk hP hK hD hN⟩ rfl rfl hl.1 rfl (lv_room (Nat.le_of_ble_eq_true rfl)) dX1_readWord_18 ⟨Nat.zero_le _, Nat.zero_le _⟩) hS hA (fun H locs hkp0 hS => ?_)
      replace hP := hkp0 _ hP
      refine ro_i (D := D) (va_runS (As := [.int (s_X1_byteAt by_ (nI (q + j2)))]) (rest := []) ⟨hx, hb, hml, hown, hts⟩ (c_X1_isLetter l D (s_X1_byteAt by_ (nI (q + j2)))  _) (va_cwS 1 hts gX1_readWord_X1_isLetter rfl rfl rfl (by decide +kernel) ⟨Nat.le_of_ble_eq_true rfl, Nat.le_of_ble_eq_true rfl⟩) ⟨cPre.blind, cPre.mk vP0 hKe vD0 hN⟩ rfl rfl hl.1 rfl (lv_room (Nat.le_of_ble_eq_true rfl)) dX1_readWord_21 ⟨Nat.zero_le _, Nat.zero_le _⟩) hS hA (fun H locs hkp0 hS => ?_)
      replace hP := hkp0 _ hP
      refine lv_if_eq (tgt := 55) hx hb dX1_readWord_24 (by decide) (fun c_24_6 => ?_) (fun c_24_6 => ?_)
      · refine lv_aload_n hx hb dX1_readWord_55 rfl (lv_at hl 0 rfl) ?_
        refine lv_lload_n hx hb dX1_readWord_56 rfl (lv_at hl 1 rfl) ?_
        refine ro_i (D := D) (va_runS (As := [.long word]) (rest := [.ref t0]) ⟨hx, hb, hml, hown, hts⟩ (c_X1_tokenOf l D word  _) (va_cwS 1 hts gX1_readWord_X1_tokenOf rfl rfl rfl (by decide +kernel) ⟨Nat.le_of_ble_eq_true rfl, Nat.le_of_ble_eq_true rfl⟩) ⟨cPre.blind, cPre.mk vP0 hKe vD0 hN⟩ rfl rfl hl.1 rfl (lv_room (Nat.le_of_ble_eq_true rfl)) dX1_readWord_57 ⟨Nat.zero_le _, Nat.zero_le _⟩) hS hA (fun H locs hkp0 hS => ?_)
        replace hP := hkp0 _ hP
        refine va_put (D := D) (ci := 1) (v := .int (s_X1_tokenOf word)) (ty := .int) (C := RX1) (T := TX1) (N := 5) hx hb hts hinX1 tyX1 tyX1_ok nmX1 hown hK hP hD hS 0 rfl rfl 3 (by decide) (hts (.fieldLink RX1 30 "HoldUnless$Text" "token" "I") (by decide +kernel)) (fun _ h9 => h9) rfl (by decide +kernel) rfl rfl (Nat.le_of_ble_eq_true rfl) dX1_readWord_60 (fun H locs hP hD hS => ?_)
        replace hP : va_P D vwCl (wT t0 t1 ct by_ (nI len) (nI (q + j2)) (s_X1_tokenOf word) tp) H := hP
        replace hD : va_D A (wT t0 t1 ct by_ (nI len) (nI (q + j2)) (s_X1_tokenOf word) tp) := hD
        have hs_7 : itE (f_X1_readWord_2 by_ q) 0 (j2 + 1) = (.inl ((q + j2), (s_X1_tokenOf word))) := itE_succ he2 (by (unfold f_X1_readWord_2; (try dsimp only); (try rw [if_pos c_24_6]); first | done | rfl))
        have hn_8 := itE_stop hs_7 (len - q) (by omega)
        exact rw_vret hx hb hr hS hlocks ((q + j2), (s_X1_tokenOf word)) ⟨(show s_X1_readWord by_ len q = ((q + j2), (s_X1_tokenOf word)) from by (unfold s_X1_readWord; (try dsimp only); (try rw [hn_8]); (try dsimp only [onE]); first | done | rfl)).symm, (by first | assumption | omega | rfl | exact Or.inl rfl | exact Or.inr (by omega) | (intro h; omega) | (intro h; rcases h with h | h <;> contradiction))⟩ hP hD dX1_readWord_63
      · refine lv_lload_n hx hb dX1_readWord_27 rfl (lv_at hl 1 rfl) ?_
        refine lv_bipush (v := 8) hx hb dX1_readWord_28 (by decide) ?_
        refine lv_lshl hx hb dX1_readWord_30 rfl ?_
        refine lv_aload_n hx hb dX1_readWord_31 rfl (lv_at hl 0 rfl) ?_
        refine lv_aload_n hx hb dX1_readWord_32 rfl (lv_at hl 0 rfl) ?_
        refine va_get (D := D) (ci := 1) (v := .int (nI (q + j2))) (C := RX1) (T := TX1) (N := 5) hx hb hts hinX1 hown hK hP 0 rfl rfl 2 (by decide) (hts (.fieldLink RX1 24 "HoldUnless$Text" "place" "I") (by decide +kernel)) (fun _ h9 => h9) rfl dX1_readWord_33 ?_
        refine ro_i (D := D) (va_runV (As := [.int (nI (q + j2))]) (rest := [.long (word <<< (((8 : Int32).toInt64) &&& 63))]) ⟨hx, hb, hml, hown, hts⟩ (c_X1_byteAt l D t0 t1 ct by_ (nI len) (nI (q + j2)) tk tp (nI (q + j2))  _) (cwV 1 hts gX1_readWord_X1_byteAt rfl rfl rfl (by decide +kernel) ⟨Nat.le_of_ble_eq_true rfl, Nat.le_of_ble_eq_true rfl⟩) ⟨cPre.blind, va_recv hK hP (ci := 1) (q0 := 0) rfl rfl, cPre.mk hP hK hD hN⟩ rfl rfl hl.1 rfl (lv_room (Nat.le_of_ble_eq_true rfl)) dX1_readWord_36 ⟨Nat.zero_le _, Nat.zero_le _⟩) hS hA (fun H locs hkp0 hS => ?_)
        replace hP := hkp0 _ hP
        refine lv_i2l hx hb dX1_readWord_39 rfl ?_
        refine lv_lor hx hb dX1_readWord_40 ?_
        refine lv_lstore_n (lv' := [(1, .long ((word <<< (((8 : Int32).toInt64) &&& 63)) ||| (((s_X1_byteAt by_ (nI (q + j2))) : Int32).toInt64))), (0, .ref t0)]) hx hb dX1_readWord_41 rfl hl (by decide) rfl (fun ls hl => ?_)
        refine lv_aload_n hx hb dX1_readWord_42 rfl (lv_at hl 1 rfl) ?_
        refine lv_dup hx hb dX1_readWord_43 rfl ?_
        refine va_get (D := D) (ci := 1) (v := .int (nI (q + j2))) (C := RX1) (T := TX1) (N := 5) hx hb hts hinX1 hown hK hP 0 rfl rfl 2 (by decide) (hts (.fieldLink RX1 24 "HoldUnless$Text" "place" "I") (by decide +kernel)) (fun _ h9 => h9) rfl dX1_readWord_44 ?_
        refine lv_iconst (v := 1) hx hb dX1_readWord_47 (by decide) ?_
        refine lv_iadd hx hb dX1_readWord_48 ?_
        refine lv_cv (nI_1 (q + j2)) ?_
        refine va_put (D := D) (ci := 1) (v := .int (nI ((q + j2) + 1))) (ty := .int) (C := RX1) (T := TX1) (N := 5) hx hb hts hinX1 tyX1 tyX1_ok nmX1 hown hK hP hD hS 0 rfl rfl 2 (by decide) (hts (.fieldLink RX1 24 "HoldUnless$Text" "place" "I") (by decide +kernel)) (fun _ h9 => h9) rfl (by decide +kernel) rfl rfl (Nat.le_of_ble_eq_true rfl) dX1_readWord_49 (fun H locs hP hD hS => ?_)
        replace hP : va_P D vwCl (wT t0 t1 ct by_ (nI len) (nI ((q + j2) + 1)) tk tp) H := hP
        replace hD : va_D A (wT t0 t1 ct by_ (nI len) (nI ((q + j2) + 1)) tk tp) := hD
        refine lv_goto (tgt := 2) hx hb dX1_readWord_52 (by decide) ?_
        exact ih2 (j2 + 1) (by omega) ((word <<< (((8 : Int32).toInt64) &&& 63)) ||| (((s_X1_byteAt by_ (nI (q + j2))) : Int32).toInt64)) (itE_succ he2 (by (unfold f_X1_readWord_2; (try dsimp only); (try rw [if_neg c_24_6]); first | done | rfl)))   _ _ hP hD hS _ (lv_sub hl [1, 0] rfl)
  exact lp2_1 (len - q) 0 (by omega) 0 (itE_zero _ _)   _ _ hP hD hS _ (lv_sub hl [1, 0] rfl)

def f_X1_advance_0 (by_ : Nat → Int32) (len : Nat) (q : Nat) (j0 : Nat) (st : Unit) : (Nat × Int32 × Int32) ⊕ (Unit) := (if (s_X1_byteAt by_ (nI (q + j0))) = 32 then (.inr ()) else (if (s_X1_byteAt by_ (nI (q + j0))) = 59 then (.inl (((q + j0) + 1), 12, (nI (q + j0)))) else (if (s_X1_isLetter (s_X1_byteAt by_ (nI (q + j0)))) = 0 then (.inl ((q + j0), 14, (nI (q + j0)))) else (match s_X1_readWord by_ len (q + j0) with | (plv_15, tkv_16) => (.inl (plv_15, tkv_16, (nI (q + j0))))))))
def s_X1_advance (by_ : Nat → Int32) (len : Nat) (q : Nat) : Nat × Int32 × Int32 := (onE (itE (f_X1_advance_0 by_ len q) () (len - q)) (fun st => match st with | () => ((q + (len - q)), 13, (nI (q + (len - q))))))
set_option maxHeartbeats 4000000 in
set_option maxRecDepth 100000 in
theorem c_X1_advance (l : Launch) (D : va_G) (t0 : Nat) (t1 : Nat) (ct : ClassId) (len : Nat) (q : Nat) (by_ : Nat → Int32) (tk : Int32) (tp : Int32) (hq : q ≤ len) (hlen : len ≤ 300) (sz : Nat) : Met l yX1_advance wsX1_advance ({ frames := 2, cells := 0, slots := 0, locals := 43 }) (va_Pc [.ref t0] (cPre D (tT t0 t1 ct) (wT t0 t1 ct by_ (nI len) (nI q) tk tp) sz)) (va_Qv (fun (u : Nat × Int32 × Int32) => (u.1, u.2.1, u.2.2) = s_X1_advance by_ len q ∧ (u.1 ≤ len)) (rwB D (fun u : Nat × Int32 × Int32 => (wT t0 t1 ct by_ (nI len) (nI u.1) u.2.1 u.2.2)) (va_A (wT t0 t1 ct by_ (nI len) (nI q) tk tp) sz)) (va_A (wT t0 t1 ct by_ (nI len) (nI q) tk tp) sz)) 0 0 (va_A (wT t0 t1 ct by_ (nI len) (nI q) tk tp) sz) := by
  refine Met.ofW (cc := cX1_advance) (maxL := 1) (ret := none) (by decide) rfl ?_
  intro p e s m args below meth c s₁ B hml hv
  obtain ⟨rfl, hsz, hP, hK, hD, hN⟩ := hv
  have hx := B.exec
  have hb := B.bytes
  have hr := B.returns
  have hts := atoms_spec (ws := wsX1_advance) B.pre
  have hown : s.vm.findClass RX1 = some m.cls := findClass_of_methodNamed B.named
  have hlocks := B.notSynchronized
  have hinX1 : ∀ w ∈ wsX10, w ∈ wsX1_advance := fun w h => List.mem_cons_of_mem _ (List.mem_append_right _ h)
  subst hsz
  replace hD := hD.self (sz := s.heap.size)
  generalize hAe : va_A (wT t0 t1 ct by_ (nI len) (nI q) tk tp) s.heap.size = A at hD ⊢
  have hA : ∀ q : Nat, s.heap.size ≤ q → A q := fun q h => by rw [← hAe]; exact Or.inr h
  have hS : va_S A s.heap s.heap [] := va_S.rf
  have hl := lv_entry ([.ref t0]) (n := 1) (Nat.le_of_ble_eq_true rfl)
  rw [lg_entry_eq]
  generalize (lg_sl ([.ref t0]) ++ List.replicate (1 - (lg_sl ([.ref t0])).length) Slot.unset).toArray = ls at hl ⊢
  replace hl : lv_has ls 1 [(0, .ref t0)] := hl
  have hKe := hK.sub (tys' := []) [] rfl
  have lp0_1 : ∀ (z_1 j0 : Nat), j0 + z_1 = len - q → ∀ (_ : Unit), itE (f_X1_advance_0 by_ len q) () j0 = .inr () → ∀  (H : Heap) (locs : List Loc), va_P D vwCl (wT t0 t1 ct by_ (nI len) (nI (q + j0)) tk tp) H → va_D A (wT t0 t1 ct by_ (nI len) (nI (q + j0)) tk tp) → va_S A s.heap H locs → ∀ ls : Array Slot, lv_has ls 1 [(0, .ref t0)] → W p l e (headSpec wsX1_advance ({ frames := 2, cells := 0, slots := 0, locals := 43 })).room s m ([.ref t0] : List Value).toArray below meth c H locs 0 0 (MQ below (va_Qv (fun (u : Nat × Int32 × Int32) => (u.1, u.2.1, u.2.2) = s_X1_advance by_ len q ∧ (u.1 ≤ len)) (rwB D (fun u : Nat × Int32 × Int32 => (wT t0 t1 ct by_ (nI len) (nI u.1) u.2.1 u.2.2)) A) A) ([.ref t0] : List Value).toArray s 0 0 A) (F0 m 0 ls []) := by
    intro z_1
    induction z_1 with
    | zero =>
      intro j0 hj0 _ he0   H locs hP hD hS ls hl
      obtain rfl : len - q = j0 := by omega
      refine lv_aload_n hx hb dX1_advance_0 rfl (lv_at hl 0 rfl) ?_
      refine va_get (D := D) (ci := 1) (v := .int (nI (q + (len - q)))) (C := RX1) (T := TX1) (N := 5) hx hb hts hinX1 hown hK hP 0 rfl rfl 2 (by decide) (hts (.fieldLink RX1 24 "HoldUnless$Text" "place" "I") (by decide +kernel)) (fun _ h9 => h9) rfl dX1_advance_1 ?_
      refine lv_aload_n hx hb dX1_advance_4 rfl (lv_at hl 0 rfl) ?_
      refine va_get (D := D) (ci := 1) (v := .int (nI len)) (C := RX1) (T := TX1) (N := 5) hx hb hts hinX1 hown hK hP 0 rfl rfl 1 (by decide) (hts (.fieldLink RX1 15 "HoldUnless$Text" "length" "I") (by decide +kernel)) (fun _ h9 => h9) rfl dX1_advance_5 ?_
      refine lv_icmp_ge (tgt := 37) hx hb dX1_advance_8 (by decide) (fun _ => ?_) (fun hh_3 => absurd (nI_le (a := len) (b := q + (len - q)) (by omega) (by omega)) hh_3)
      refine lv_aload_n hx hb dX1_advance_37 rfl (lv_at hl 0 rfl) ?_
      refine lv_aload_n hx hb dX1_advance_38 rfl (lv_at hl 0 rfl) ?_
      refine va_get (D := D) (ci := 1) (v := .int (nI (q + (len - q)))) (C := RX1) (T := TX1) (N := 5) hx hb hts hinX1 hown hK hP 0 rfl rfl 2 (by decide) (hts (.fieldLink RX1 24 "HoldUnless$Text" "place" "I") (by decide +kernel)) (fun _ h9 => h9) rfl dX1_advance_39 ?_
      refine va_put (D := D) (ci := 1) (v := .int (nI (q + (len - q)))) (ty := .int) (C := RX1) (T := TX1) (N := 5) hx hb hts hinX1 tyX1 tyX1_ok nmX1 hown hK hP hD hS 0 rfl rfl 4 (by decide) (hts (.fieldLink RX1 63 "HoldUnless$Text" "tokenPlace" "I") (by decide +kernel)) (fun _ h9 => h9) rfl (by decide +kernel) rfl rfl (Nat.le_of_ble_eq_true rfl) dX1_advance_42 (fun H locs hP hD hS => ?_)
      replace hP : va_P D vwCl (wT t0 t1 ct by_ (nI len) (nI (q + (len - q))) tk (nI (q + (len - q)))) H := hP
      replace hD : va_D A (wT t0 t1 ct by_ (nI len) (nI (q + (len - q))) tk (nI (q + (len - q)))) := hD
      refine lv_aload_n hx hb dX1_advance_45 rfl (lv_at hl 0 rfl) ?_
      refine va_get (D := D) (ci := 1) (v := .int (nI (q + (len - q)))) (C := RX1) (T := TX1) (N := 5) hx hb hts hinX1 hown hK hP 0 rfl rfl 2 (by decide) (hts (.fieldLink RX1 24 "HoldUnless$Text" "place" "I") (by decide +kernel)) (fun _ h9 => h9) rfl dX1_advance_46 ?_
      refine lv_aload_n hx hb dX1_advance_49 rfl (lv_at hl 0 rfl) ?_
      refine va_get (D := D) (ci := 1) (v := .int (nI len)) (C := RX1) (T := TX1) (N := 5) hx hb hts hinX1 hown hK hP 0 rfl rfl 1 (by decide) (hts (.fieldLink RX1 15 "HoldUnless$Text" "length" "I") (by decide +kernel)) (fun _ h9 => h9) rfl dX1_advance_50 ?_
      refine lv_icmp_lt (tgt := 65) hx hb dX1_advance_53 (by decide) (fun hh_5 => absurd hh_5 (nI_nlt (by omega) (by omega))) (fun _ => ?_)
      refine lv_aload_n hx hb dX1_advance_56 rfl (lv_at hl 0 rfl) ?_
      refine lv_bipush (v := 13) hx hb dX1_advance_57 (by decide) ?_
      refine va_put (D := D) (ci := 1) (v := .int 13) (ty := .int) (C := RX1) (T := TX1) (N := 5) hx hb hts hinX1 tyX1 tyX1_ok nmX1 hown hK hP hD hS 0 rfl rfl 3 (by decide) (hts (.fieldLink RX1 30 "HoldUnless$Text" "token" "I") (by decide +kernel)) (fun _ h9 => h9) rfl (by decide +kernel) rfl rfl (Nat.le_of_ble_eq_true rfl) dX1_advance_59 (fun H locs hP hD hS => ?_)
      replace hP : va_P D vwCl (wT t0 t1 ct by_ (nI len) (nI (q + (len - q))) 13 (nI (q + (len - q)))) H := hP
      replace hD : va_D A (wT t0 t1 ct by_ (nI len) (nI (q + (len - q))) 13 (nI (q + (len - q)))) := hD
      refine lv_goto (tgt := 124) hx hb dX1_advance_62 (by decide) ?_
      exact rw_vret hx hb hr hS hlocks ((q + (len - q)), 13, (nI (q + (len - q)))) ⟨(show s_X1_advance by_ len q = ((q + (len - q)), 13, (nI (q + (len - q)))) from by (unfold s_X1_advance; (try dsimp only); (try rw [he0]); (try dsimp only [onE]); first | done | rfl)).symm, (by first | assumption | omega | rfl | exact Or.inl rfl | exact Or.inr (by omega) | (intro h; omega) | (intro h; rcases h with h | h <;> contradiction))⟩ hP hD dX1_advance_124
    | succ z_1 ih0 =>
      intro j0 hj0 _ he0   H locs hP hD hS ls hl
      refine lv_aload_n hx hb dX1_advance_0 rfl (lv_at hl 0 rfl) ?_
      refine va_get (D := D) (ci := 1) (v := .int (nI (q + j0))) (C := RX1) (T := TX1) (N := 5) hx hb hts hinX1 hown hK hP 0 rfl rfl 2 (by decide) (hts (.fieldLink RX1 24 "HoldUnless$Text" "place" "I") (by decide +kernel)) (fun _ h9 => h9) rfl dX1_advance_1 ?_
      refine lv_aload_n hx hb dX1_advance_4 rfl (lv_at hl 0 rfl) ?_
      refine va_get (D := D) (ci := 1) (v := .int (nI len)) (C := RX1) (T := TX1) (N := 5) hx hb hts hinX1 hown hK hP 0 rfl rfl 1 (by decide) (hts (.fieldLink RX1 15 "HoldUnless$Text" "length" "I") (by decide +kernel)) (fun _ h9 => h9) rfl dX1_advance_5 ?_
      refine lv_icmp_ge (tgt := 37) hx hb dX1_advance_8 (by decide) (fun hh_7 => absurd hh_7 (nI_ge (a := q + j0) (b := len) (by omega) (by omega))) (fun _ => ?_)
      refine lv_aload_n hx hb dX1_advance_11 rfl (lv_at hl 0 rfl) ?_
      refine lv_aload_n hx hb dX1_advance_12 rfl (lv_at hl 0 rfl) ?_
      refine va_get (D := D) (ci := 1) (v := .int (nI (q + j0))) (C := RX1) (T := TX1) (N := 5) hx hb hts hinX1 hown hK hP 0 rfl rfl 2 (by decide) (hts (.fieldLink RX1 24 "HoldUnless$Text" "place" "I") (by decide +kernel)) (fun _ h9 => h9) rfl dX1_advance_13 ?_
      refine ro_i (D := D) (va_runV (As := [.int (nI (q + j0))]) (rest := []) ⟨hx, hb, hml, hown, hts⟩ (c_X1_byteAt l D t0 t1 ct by_ (nI len) (nI (q + j0)) tk tp (nI (q + j0))  _) (cwV 1 hts gX1_advance_X1_byteAt rfl rfl rfl (by decide +kernel) ⟨Nat.le_of_ble_eq_true rfl, Nat.le_of_ble_eq_true rfl⟩) ⟨cPre.blind, va_recv hK hP (ci := 1) (q0 := 0) rfl rfl, cPre.mk hP hK hD hN⟩ rfl rfl hl.1 rfl (lv_room (Nat.le_of_ble_eq_true rfl)) dX1_advance_16 ⟨Nat.zero_le _, Nat.zero_le _⟩) hS hA (fun H locs hkp0 hS => ?_)
      replace hP := hkp0 _ hP
      refine lv_bipush (v := 32) hx hb dX1_advance_19 (by decide) ?_
      refine lv_icmp_ne (tgt := 37) hx hb dX1_advance_21 (by decide) (fun c_21_8 => ?_) (fun c_21_8 => ?_)
      · refine lv_aload_n hx hb dX1_advance_37 rfl (lv_at hl 0 rfl) ?_
        refine lv_aload_n hx hb dX1_advance_38 rfl (lv_at hl 0 rfl) ?_
        refine va_get (D := D) (ci := 1) (v := .int (nI (q + j0))) (C := RX1) (T := TX1) (N := 5) hx hb hts hinX1 hown hK hP 0 rfl rfl 2 (by decide) (hts (.fieldLink RX1 24 "HoldUnless$Text" "place" "I") (by decide +kernel)) (fun _ h9 => h9) rfl dX1_advance_39 ?_
        refine va_put (D := D) (ci := 1) (v := .int (nI (q + j0))) (ty := .int) (C := RX1) (T := TX1) (N := 5) hx hb hts hinX1 tyX1 tyX1_ok nmX1 hown hK hP hD hS 0 rfl rfl 4 (by decide) (hts (.fieldLink RX1 63 "HoldUnless$Text" "tokenPlace" "I") (by decide +kernel)) (fun _ h9 => h9) rfl (by decide +kernel) rfl rfl (Nat.le_of_ble_eq_true rfl) dX1_advance_42 (fun H locs hP hD hS => ?_)
        replace hP : va_P D vwCl (wT t0 t1 ct by_ (nI len) (nI (q + j0)) tk (nI (q + j0))) H := hP
        replace hD : va_D A (wT t0 t1 ct by_ (nI len) (nI (q + j0)) tk (nI (q + j0))) := hD
        refine lv_aload_n hx hb dX1_advance_45 rfl (lv_at hl 0 rfl) ?_
        refine va_get (D := D) (ci := 1) (v := .int (nI (q + j0))) (C := RX1) (T := TX1) (N := 5) hx hb hts hinX1 hown hK hP 0 rfl rfl 2 (by decide) (hts (.fieldLink RX1 24 "HoldUnless$Text" "place" "I") (by decide +kernel)) (fun _ h9 => h9) rfl dX1_advance_46 ?_
        refine lv_aload_n hx hb dX1_advance_49 rfl (lv_at hl 0 rfl) ?_
        refine va_get (D := D) (ci := 1) (v := .int (nI len)) (C := RX1) (T := TX1) (N := 5) hx hb hts hinX1 hown hK hP 0 rfl rfl 1 (by decide) (hts (.fieldLink RX1 15 "HoldUnless$Text" "length" "I") (by decide +kernel)) (fun _ h9 => h9) rfl dX1_advance_50 ?_
        refine lv_icmp_lt (tgt := 65) hx hb dX1_advance_53 (by decide) (fun _ => ?_) (fun hh_10 => absurd (nI_lt (by omega) (by omega)) hh_10)
        refine lv_aload_n hx hb dX1_advance_65 rfl (lv_at hl 0 rfl) ?_
        refine lv_aload_n hx hb dX1_advance_66 rfl (lv_at hl 0 rfl) ?_
        refine va_get (D := D) (ci := 1) (v := .int (nI (q + j0))) (C := RX1) (T := TX1) (N := 5) hx hb hts hinX1 hown hK hP 0 rfl rfl 2 (by decide) (hts (.fieldLink RX1 24 "HoldUnless$Text" "place" "I") (by decide +kernel)) (fun _ h9 => h9) rfl dX1_advance_67 ?_
        refine ro_i (D := D) (va_runV (As := [.int (nI (q + j0))]) (rest := []) ⟨hx, hb, hml, hown, hts⟩ (c_X1_byteAt l D t0 t1 ct by_ (nI len) (nI (q + j0)) tk (nI (q + j0)) (nI (q + j0))  _) (cwV 1 hts gX1_advance_X1_byteAt rfl rfl rfl (by decide +kernel) ⟨Nat.le_of_ble_eq_true rfl, Nat.le_of_ble_eq_true rfl⟩) ⟨cPre.blind, va_recv hK hP (ci := 1) (q0 := 0) rfl rfl, cPre.mk hP hK hD hN⟩ rfl rfl hl.1 rfl (lv_room (Nat.le_of_ble_eq_true rfl)) dX1_advance_70 ⟨Nat.zero_le _, Nat.zero_le _⟩) hS hA (fun H locs hkp0 hS => ?_)
        replace hP := hkp0 _ hP
        refine lv_bipush (v := 59) hx hb dX1_advance_73 (by decide) ?_
        refine lv_icmp_ne (tgt := 97) hx hb dX1_advance_75 (by decide) (fun c_75_11 => ?_) (fun c_75_11 => ?_)
        · refine lv_aload_n hx hb dX1_advance_97 rfl (lv_at hl 0 rfl) ?_
          refine lv_aload_n hx hb dX1_advance_98 rfl (lv_at hl 0 rfl) ?_
          refine va_get (D := D) (ci := 1) (v := .int (nI (q + j0))) (C := RX1) (T := TX1) (N := 5) hx hb hts hinX1 hown hK hP 0 rfl rfl 2 (by decide) (hts (.fieldLink RX1 24 "HoldUnless$Text" "place" "I") (by decide +kernel)) (fun _ h9 => h9) rfl dX1_advance_99 ?_
          refine ro_i (D := D) (va_runV (As := [.int (nI (q + j0))]) (rest := []) ⟨hx, hb, hml, hown, hts⟩ (c_X1_byteAt l D t0 t1 ct by_ (nI len) (nI (q + j0)) tk (nI (q + j0)) (nI (q + j0))  _) (cwV 1 hts gX1_advance_X1_byteAt rfl rfl rfl (by decide +kernel) ⟨Nat.le_of_ble_eq_true rfl, Nat.le_of_ble_eq_true rfl⟩) ⟨cPre.blind, va_recv hK hP (ci := 1) (q0 := 0) rfl rfl, cPre.mk hP hK hD hN⟩ rfl rfl hl.1 rfl (lv_room (Nat.le_of_ble_eq_true rfl)) dX1_advance_102 ⟨Nat.zero_le _, Nat.zero_le _⟩) hS hA (fun H locs hkp0 hS => ?_)
          replace hP := hkp0 _ hP
          refine ro_i (D := D) (va_runS (As := [.int (s_X1_byteAt by_ (nI (q + j0)))]) (rest := []) ⟨hx, hb, hml, hown, hts⟩ (c_X1_isLetter l D (s_X1_byteAt by_ (nI (q + j0)))  _) (va_cwS 1 hts gX1_advance_X1_isLetter rfl rfl rfl (by decide +kernel) ⟨Nat.le_of_ble_eq_true rfl, Nat.le_of_ble_eq_true rfl⟩) ⟨cPre.blind, cPre.mk vP0 hKe vD0 hN⟩ rfl rfl hl.1 rfl (lv_room (Nat.le_of_ble_eq_true rfl)) dX1_advance_105 ⟨Nat.zero_le _, Nat.zero_le _⟩) hS hA (fun H locs hkp0 hS => ?_)
          replace hP := hkp0 _ hP
          refine lv_if_eq (tgt := 118) hx hb dX1_advance_108 (by decide) (fun c_108_12 => ?_) (fun c_108_12 => ?_)
          · refine lv_aload_n hx hb dX1_advance_118 rfl (lv_at hl 0 rfl) ?_
            refine lv_bipush (v := 14) hx hb dX1_advance_119 (by decide) ?_
            refine va_put (D := D) (ci := 1) (v := .int 14) (ty := .int) (C := RX1) (T := TX1) (N := 5) hx hb hts hinX1 tyX1 tyX1_ok nmX1 hown hK hP hD hS 0 rfl rfl 3 (by decide) (hts (.fieldLink RX1 30 "HoldUnless$Text" "token" "I") (by decide +kernel)) (fun _ h9 => h9) rfl (by decide +kernel) rfl rfl (Nat.le_of_ble_eq_true rfl) dX1_advance_121 (fun H locs hP hD hS => ?_)
            replace hP : va_P D vwCl (wT t0 t1 ct by_ (nI len) (nI (q + j0)) 14 (nI (q + j0))) H := hP
            replace hD : va_D A (wT t0 t1 ct by_ (nI len) (nI (q + j0)) 14 (nI (q + j0))) := hD
            have hs_13 : itE (f_X1_advance_0 by_ len q) () (j0 + 1) = (.inl ((q + j0), 14, (nI (q + j0)))) := itE_succ he0 (by (unfold f_X1_advance_0; (try dsimp only); (try rw [if_neg c_21_8]); (try rw [if_neg c_75_11]); (try rw [if_pos c_108_12]); first | done | rfl))
            have hn_14 := itE_stop hs_13 (len - q) (by omega)
            exact rw_vret hx hb hr hS hlocks ((q + j0), 14, (nI (q + j0))) ⟨(show s_X1_advance by_ len q = ((q + j0), 14, (nI (q + j0))) from by (unfold s_X1_advance; (try dsimp only); (try rw [hn_14]); (try dsimp only [onE]); first | done | rfl)).symm, (by first | assumption | omega | rfl | exact Or.inl rfl | exact Or.inr (by omega) | (intro h; omega) | (intro h; rcases h with h | h <;> contradiction))⟩ hP hD dX1_advance_124
          · refine lv_aload_n hx hb dX1_advance_111 rfl (lv_at hl 0 rfl) ?_
            have hFc := va_free (wc := (wT t0 t1 ct by_ (nI len) (nI (q + j0)) tk (nI (q + j0)))) hD hS hA [0, 1] rfl
            refine rw_v (D := D) (wc := (wT t0 t1 ct by_ (nI len) (nI (q + j0)) tk (nI (q + j0)))) (va_runV (As := []) (rest := []) ⟨hx, hb, hml, hown, hts⟩ (c_X1_readWord l D t0 t1 ct len (q + j0) by_ tk (nI (q + j0)) (by first | assumption | omega) (by first | assumption | omega) _) (cwV 0 hts gX1_advance_X1_readWord rfl rfl rfl (by decide +kernel) ⟨Nat.le_of_ble_eq_true rfl, Nat.le_of_ble_eq_true rfl⟩) ⟨cPre.blind, va_recv hK hP (ci := 1) (q0 := 0) rfl rfl, cPre.mk hP hK hD hN⟩ rfl rfl hl.1 rfl (lv_room (Nat.le_of_ble_eq_true rfl)) dX1_advance_112 ⟨Nat.zero_le _, Nat.zero_le _⟩) hS hFc (fun u H1 locs hw_18 hP1 hD1 hk1 hS => ?_)
            obtain ⟨plv_15, tkv_16⟩ := u
            try dsimp only at hw_18
            obtain ⟨hw_18, hpx_19⟩ := hw_18
            have hP : va_P D vwCl (wT t0 t1 ct by_ (nI len) (nI plv_15) tkv_16 (nI (q + j0))) H1 := hP1
            have hD : va_D A (wT t0 t1 ct by_ (nI len) (nI plv_15) tkv_16 (nI (q + j0))) := hD1.weaken (fun k q hk h => hFc _ h)
            clear hP1 hD1 hFc hk1
            generalize H1 = H at hP hS ⊢
            refine lv_goto (tgt := 124) hx hb dX1_advance_115 (by decide) ?_
            have hs_20 : itE (f_X1_advance_0 by_ len q) () (j0 + 1) = (.inl (plv_15, tkv_16, (nI (q + j0)))) := itE_succ he0 (by (unfold f_X1_advance_0; (try dsimp only); (try rw [if_neg c_21_8]); (try rw [if_neg c_75_11]); (try rw [if_neg c_108_12]); (try rw [← hw_18]); (try dsimp only); first | done | rfl))
            have hn_21 := itE_stop hs_20 (len - q) (by omega)
            exact rw_vret hx hb hr hS hlocks (plv_15, tkv_16, (nI (q + j0))) ⟨(show s_X1_advance by_ len q = (plv_15, tkv_16, (nI (q + j0))) from by (unfold s_X1_advance; (try dsimp only); (try rw [hn_21]); (try dsimp only [onE]); first | done | rfl)).symm, (by first | assumption | omega | rfl | exact Or.inl rfl | exact Or.inr (by omega) | (intro h; omega) | (intro h; rcases h with h | h <;> contradiction))⟩ hP hD dX1_advance_124
        · refine lv_aload_n hx hb dX1_advance_78 rfl (lv_at hl 0 rfl) ?_
          refine lv_bipush (v := 12) hx hb dX1_advance_79 (by decide) ?_
          refine va_put (D := D) (ci := 1) (v := .int 12) (ty := .int) (C := RX1) (T := TX1) (N := 5) hx hb hts hinX1 tyX1 tyX1_ok nmX1 hown hK hP hD hS 0 rfl rfl 3 (by decide) (hts (.fieldLink RX1 30 "HoldUnless$Text" "token" "I") (by decide +kernel)) (fun _ h9 => h9) rfl (by decide +kernel) rfl rfl (Nat.le_of_ble_eq_true rfl) dX1_advance_81 (fun H locs hP hD hS => ?_)
          replace hP : va_P D vwCl (wT t0 t1 ct by_ (nI len) (nI (q + j0)) 12 (nI (q + j0))) H := hP
          replace hD : va_D A (wT t0 t1 ct by_ (nI len) (nI (q + j0)) 12 (nI (q + j0))) := hD
          refine lv_aload_n hx hb dX1_advance_84 rfl (lv_at hl 0 rfl) ?_
          refine lv_dup hx hb dX1_advance_85 rfl ?_
          refine va_get (D := D) (ci := 1) (v := .int (nI (q + j0))) (C := RX1) (T := TX1) (N := 5) hx hb hts hinX1 hown hK hP 0 rfl rfl 2 (by decide) (hts (.fieldLink RX1 24 "HoldUnless$Text" "place" "I") (by decide +kernel)) (fun _ h9 => h9) rfl dX1_advance_86 ?_
          refine lv_iconst (v := 1) hx hb dX1_advance_89 (by decide) ?_
          refine lv_iadd hx hb dX1_advance_90 ?_
          refine lv_cv (nI_1 (q + j0)) ?_
          refine va_put (D := D) (ci := 1) (v := .int (nI ((q + j0) + 1))) (ty := .int) (C := RX1) (T := TX1) (N := 5) hx hb hts hinX1 tyX1 tyX1_ok nmX1 hown hK hP hD hS 0 rfl rfl 2 (by decide) (hts (.fieldLink RX1 24 "HoldUnless$Text" "place" "I") (by decide +kernel)) (fun _ h9 => h9) rfl (by decide +kernel) rfl rfl (Nat.le_of_ble_eq_true rfl) dX1_advance_91 (fun H locs hP hD hS => ?_)
          replace hP : va_P D vwCl (wT t0 t1 ct by_ (nI len) (nI ((q + j0) + 1)) 12 (nI (q + j0))) H := hP
          replace hD : va_D A (wT t0 t1 ct by_ (nI len) (nI ((q + j0) + 1)) 12 (nI (q + j0))) := hD
          refine lv_goto (tgt := 124) hx hb dX1_advance_94 (by decide) ?_
          have hs_22 : itE (f_X1_advance_0 by_ len q) () (j0 + 1) = (.inl (((q + j0) + 1), 12, (nI (q + j0)))) := itE_succ he0 (by (unfold f_X1_advance_0; (try dsimp only); (try rw [if_neg c_21_8]); (try rw [if_pos c_75_11]); first | done | rfl))
          have hn_23 := itE_stop hs_22 (len - q) (by omega)
          exact rw_vret hx hb hr hS hlocks (((q + j0) + 1), 12, (nI (q + j0))) ⟨(show s_X1_advance by_ len q = (((q + j0) + 1), 12, (nI (q + j0))) from by (unfold s_X1_advance; (try dsimp only); (try rw [hn_23]); (try dsimp only [onE]); first | done | rfl)).symm, (by first | assumption | omega | rfl | exact Or.inl rfl | exact Or.inr (by omega) | (intro h; omega) | (intro h; rcases h with h | h <;> contradiction))⟩ hP hD dX1_advance_124
      · refine lv_aload_n hx hb dX1_advance_24 rfl (lv_at hl 0 rfl) ?_
        refine lv_dup hx hb dX1_advance_25 rfl ?_
        refine va_get (D := D) (ci := 1) (v := .int (nI (q + j0))) (C := RX1) (T := TX1) (N := 5) hx hb hts hinX1 hown hK hP 0 rfl rfl 2 (by decide) (hts (.fieldLink RX1 24 "HoldUnless$Text" "place" "I") (by decide +kernel)) (fun _ h9 => h9) rfl dX1_advance_26 ?_
        refine lv_iconst (v := 1) hx hb dX1_advance_29 (by decide) ?_
        refine lv_iadd hx hb dX1_advance_30 ?_
        refine lv_cv (nI_1 (q + j0)) ?_
        refine va_put (D := D) (ci := 1) (v := .int (nI ((q + j0) + 1))) (ty := .int) (C := RX1) (T := TX1) (N := 5) hx hb hts hinX1 tyX1 tyX1_ok nmX1 hown hK hP hD hS 0 rfl rfl 2 (by decide) (hts (.fieldLink RX1 24 "HoldUnless$Text" "place" "I") (by decide +kernel)) (fun _ h9 => h9) rfl (by decide +kernel) rfl rfl (Nat.le_of_ble_eq_true rfl) dX1_advance_31 (fun H locs hP hD hS => ?_)
        replace hP : va_P D vwCl (wT t0 t1 ct by_ (nI len) (nI ((q + j0) + 1)) tk tp) H := hP
        replace hD : va_D A (wT t0 t1 ct by_ (nI len) (nI ((q + j0) + 1)) tk tp) := hD
        refine lv_goto (tgt := 0) hx hb dX1_advance_34 (by decide) ?_
        exact ih0 (j0 + 1) (by omega) () (itE_succ he0 (by (unfold f_X1_advance_0; (try dsimp only); (try rw [if_pos c_21_8]); first | done | rfl)))   _ _ hP hD hS _ (lv_sub hl [0] rfl)
  exact lp0_1 (len - q) 0 (by omega) () (itE_zero _ _)   _ _ hP hD hS _ (lv_sub hl [0] rfl)

