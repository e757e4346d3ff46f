def wX (h : Nat → Nat) (cA : Nat → ClassId) (by_ : Nat → Int32) (ln : Int32) (pl : Int32) (tk : Int32) (tp : Int32) (sz : Int32) (may : Int32) (hd : Nat → Int32) (fi : Nat → Int32) (un : Nat → Int32) (sz2 : Int32) (may2 : Int32) (hd2 : Nat → Int32) (fi2 : Nat → Int32) (un2 : Nat → Int32) (on : Int32) (asd : Int32) (io : Nat → Int32) (ia : Nat → Int32) (kept : Int32) (tr : Int64) : va_W := [((h 0), .inr (2, [.ref (h 1), .ref (h 3), .ref (h 7), .int on, .int asd, .ref (h 11), .ref (h 12), .int kept, .long tr])), ((h 1), .inr (1, [.ref (h 2), .int ln, .int pl, .int tk, .int tp])), ((h 2), .inl ((cA 2), 300, .inl by_)), ((h 3), .inr (0, [.int sz, .int may, .ref (h 4), .ref (h 5), .ref (h 6)])), ((h 4), .inl ((cA 4), 10, .inl hd)), ((h 5), .inl ((cA 5), 10, .inl fi)), ((h 6), .inl ((cA 6), 10, .inl un)), ((h 7), .inr (0, [.int sz2, .int may2, .ref (h 8), .ref (h 9), .ref (h 10)])), ((h 8), .inl ((cA 8), 10, .inl hd2)), ((h 9), .inl ((cA 9), 10, .inl fi2)), ((h 10), .inl ((cA 10), 10, .inl un2)), ((h 11), .inl ((cA 11), 2, .inl io)), ((h 12), .inl ((cA 12), 2, .inl ia))]
def tX (h : Nat → Nat) (cA : Nat → ClassId) : List (ClassId × FieldType) := [((cA 2), .byte), ((cA 4), .int), ((cA 5), .int), ((cA 6), .int), ((cA 8), .int), ((cA 9), .int), ((cA 10), .int), ((cA 11), .int), ((cA 12), .int)]

def s_X2_isSet (set : Int32) : Int32 := (if set < 0 then 0 else (if 255 < set then 0 else 1))
set_option maxHeartbeats 4000000 in
set_option maxRecDepth 100000 in
theorem c_X2_isSet (l : Launch) (D : va_G) (set : Int32) (sz : Nat) : Met l yX2_isSet wsX2_isSet ({ frames := 0, cells := 0, slots := 0, locals := 0 }) (va_Pc [.int set] (cPre D ([] : List (ClassId × FieldType)) ([] : va_W) sz)) (va_Qi (fun r (_ : Unit) => r = s_X2_isSet set) (fun _ _ => True) (fun q => sz ≤ q)) 0 0 (fun q => sz ≤ q) := by
  refine Met.ofW (cc := cX2_isSet) (maxL := 1) (ret := (some .boolean)) (by decide) rfl ?_
  intro p e s m args below meth c s₁ B hml hv
  obtain ⟨rfl, hsz, hP, hK, hD, hN⟩ := hv
  have hx := B.exec
  have hb := B.bytes
  have hr := B.returns
  have hts := atoms_spec (ws := wsX2_isSet) B.pre
  have hown : s.vm.findClass RX2 = some m.cls := findClass_of_methodNamed B.named
  have hlocks := B.notSynchronized
  subst hsz
  obtain ⟨A, hAe⟩ : ∃ A : Nat → Prop, A = (fun q : Nat => s.heap.size ≤ q) := ⟨_, rfl⟩
  have hA : ∀ q : Nat, s.heap.size ≤ q → A q := fun q h => by rw [hAe]; exact h
  have hS : va_S A s.heap s.heap [] := va_S.rf
  subst hAe
  have hl := lv_entry ([.int set]) (n := 1) (Nat.le_of_ble_eq_true rfl)
  rw [lg_entry_eq]
  generalize (lg_sl ([.int set]) ++ List.replicate (1 - (lg_sl ([.int set])).length) Slot.unset).toArray = ls at hl ⊢
  replace hl : lv_has ls 1 [(0, .int set)] := hl
  have hKe := hK.sub (tys' := []) [] rfl
  refine lv_iload_n hx hb dX2_isSet_0 rfl (lv_at hl 0 rfl) ?_
  refine lv_if_lt (tgt := 15) hx hb dX2_isSet_1 (by decide) (fun c_1_1 => ?_) (fun c_1_1 => ?_)
  · refine lv_iconst (v := 0) hx hb dX2_isSet_15 (by decide) ?_
    exact ro_zret hx hb hr hS hlocks (show s_X2_isSet set = 0 from by (unfold s_X2_isSet; (try dsimp only); (try rw [if_pos c_1_1]); first | done | rfl)).symm (by decide +kernel) dX2_isSet_16
  · refine lv_iload_n hx hb dX2_isSet_4 rfl (lv_at hl 0 rfl) ?_
    refine lv_sipush (v := 255) hx hb dX2_isSet_5 (by decide) ?_
    refine lv_icmp_gt (tgt := 15) hx hb dX2_isSet_8 (by decide) (fun c_8_2 => ?_) (fun c_8_2 => ?_)
    · refine lv_iconst (v := 0) hx hb dX2_isSet_15 (by decide) ?_
      exact ro_zret hx hb hr hS hlocks (show s_X2_isSet set = 0 from by (unfold s_X2_isSet; (try dsimp only); (try rw [if_neg c_1_1]); (try rw [if_pos c_8_2]); first | done | rfl)).symm (by decide +kernel) dX2_isSet_16
    · refine lv_iconst (v := 1) hx hb dX2_isSet_11 (by decide) ?_
      refine lv_goto (tgt := 16) hx hb dX2_isSet_12 (by decide) ?_
      exact ro_zret hx hb hr hS hlocks (show s_X2_isSet set = 1 from by (unfold s_X2_isSet; (try dsimp only); (try rw [if_neg c_1_1]); (try rw [if_neg c_8_2]); first | done | rfl)).symm (by decide +kernel) dX2_isSet_16

def s_X2_isImage (image : Int32) : Int32 := (if image < 0 then 0 else (if 2 ≤ image then 0 else 1))
set_option maxHeartbeats 4000000 in
set_option maxRecDepth 100000 in
theorem c_X2_isImage (l : Launch) (D : va_G) (image : Int32) (sz : Nat) : Met l yX2_isImage wsX2_isImage ({ frames := 0, cells := 0, slots := 0, locals := 0 }) (va_Pc [.int image] (cPre D ([] : List (ClassId × FieldType)) ([] : va_W) sz)) (va_Qi (fun r (_ : Unit) => r = s_X2_isImage image) (fun _ _ => True) (fun q => sz ≤ q)) 0 0 (fun q => sz ≤ q) := by
  refine Met.ofW (cc := cX2_isImage) (maxL := 1) (ret := (some .boolean)) (by decide) rfl ?_
  intro p e s m args below meth c s₁ B hml hv
  obtain ⟨rfl, hsz, hP, hK, hD, hN⟩ := hv
  have hx := B.exec
  have hb := B.bytes
  have hr := B.returns
  have hts := atoms_spec (ws := wsX2_isImage) B.pre
  have hown : s.vm.findClass RX2 = some m.cls := findClass_of_methodNamed B.named
  have hlocks := B.notSynchronized
  subst hsz
  obtain ⟨A, hAe⟩ : ∃ A : Nat → Prop, A = (fun q : Nat => s.heap.size ≤ q) := ⟨_, rfl⟩
  have hA : ∀ q : Nat, s.heap.size ≤ q → A q := fun q h => by rw [hAe]; exact h
  have hS : va_S A s.heap s.heap [] := va_S.rf
  subst hAe
  have hl := lv_entry ([.int image]) (n := 1) (Nat.le_of_ble_eq_true rfl)
  rw [lg_entry_eq]
  generalize (lg_sl ([.int image]) ++ List.replicate (1 - (lg_sl ([.int image])).length) Slot.unset).toArray = ls at hl ⊢
  replace hl : lv_has ls 1 [(0, .int image)] := hl
  have hKe := hK.sub (tys' := []) [] rfl
  refine lv_iload_n hx hb dX2_isImage_0 rfl (lv_at hl 0 rfl) ?_
  refine lv_if_lt (tgt := 13) hx hb dX2_isImage_1 (by decide) (fun c_1_1 => ?_) (fun c_1_1 => ?_)
  · refine lv_iconst (v := 0) hx hb dX2_isImage_13 (by decide) ?_
    exact ro_zret hx hb hr hS hlocks (show s_X2_isImage image = 0 from by (unfold s_X2_isImage; (try dsimp only); (try rw [if_pos c_1_1]); first | done | rfl)).symm (by decide +kernel) dX2_isImage_14
  · refine lv_iload_n hx hb dX2_isImage_4 rfl (lv_at hl 0 rfl) ?_
    refine lv_iconst (v := 2) hx hb dX2_isImage_5 (by decide) ?_
    refine lv_icmp_ge (tgt := 13) hx hb dX2_isImage_6 (by decide) (fun c_6_2 => ?_) (fun c_6_2 => ?_)
    · refine lv_iconst (v := 0) hx hb dX2_isImage_13 (by decide) ?_
      exact ro_zret hx hb hr hS hlocks (show s_X2_isImage image = 0 from by (unfold s_X2_isImage; (try dsimp only); (try rw [if_neg c_1_1]); (try rw [if_pos c_6_2]); first | done | rfl)).symm (by decide +kernel) dX2_isImage_14
    · refine lv_iconst (v := 1) hx hb dX2_isImage_9 (by decide) ?_
      refine lv_goto (tgt := 14) hx hb dX2_isImage_10 (by decide) ?_
      exact ro_zret hx hb hr hS hlocks (show s_X2_isImage image = 1 from by (unfold s_X2_isImage; (try dsimp only); (try rw [if_neg c_1_1]); (try rw [if_neg c_6_2]); first | done | rfl)).symm (by decide +kernel) dX2_isImage_14

def s_X2_isBit (number : Int32) : Int32 := (if number = 0 then 1 else (if number = 1 then 1 else 0))
set_option maxHeartbeats 4000000 in
set_option maxRecDepth 100000 in
theorem c_X2_isBit (l : Launch) (D : va_G) (number : Int32) (sz : Nat) : Met l yX2_isBit wsX2_isBit ({ frames := 0, cells := 0, slots := 0, locals := 0 }) (va_Pc [.int number] (cPre D ([] : List (ClassId × FieldType)) ([] : va_W) sz)) (va_Qi (fun r (_ : Unit) => r = s_X2_isBit number) (fun _ _ => True) (fun q => sz ≤ q)) 0 0 (fun q => sz ≤ q) := by
  refine Met.ofW (cc := cX2_isBit) (maxL := 1) (ret := (some .boolean)) (by decide) rfl ?_
  intro p e s m args below meth c s₁ B hml hv
  obtain ⟨rfl, hsz, hP, hK, hD, hN⟩ := hv
  have hx := B.exec
  have hb := B.bytes
  have hr := B.returns
  have hts := atoms_spec (ws := wsX2_isBit) B.pre
  have hown : s.vm.findClass RX2 = some m.cls := findClass_of_methodNamed B.named
  have hlocks := B.notSynchronized
  subst hsz
  obtain ⟨A, hAe⟩ : ∃ A : Nat → Prop, A = (fun q : Nat => s.heap.size ≤ q) := ⟨_, rfl⟩
  have hA : ∀ q : Nat, s.heap.size ≤ q → A q := fun q h => by rw [hAe]; exact h
  have hS : va_S A s.heap s.heap [] := va_S.rf
  subst hAe
  have hl := lv_entry ([.int number]) (n := 1) (Nat.le_of_ble_eq_true rfl)
  rw [lg_entry_eq]
  generalize (lg_sl ([.int number]) ++ List.replicate (1 - (lg_sl ([.int number])).length) Slot.unset).toArray = ls at hl ⊢
  replace hl : lv_has ls 1 [(0, .int number)] := hl
  have hKe := hK.sub (tys' := []) [] rfl
  refine lv_iload_n hx hb dX2_isBit_0 rfl (lv_at hl 0 rfl) ?_
  refine lv_if_eq (tgt := 9) hx hb dX2_isBit_1 (by decide) (fun c_1_1 => ?_) (fun c_1_1 => ?_)
  · refine lv_iconst (v := 1) hx hb dX2_isBit_9 (by decide) ?_
    refine lv_goto (tgt := 14) hx hb dX2_isBit_10 (by decide) ?_
    exact ro_zret hx hb hr hS hlocks (show s_X2_isBit number = 1 from by (unfold s_X2_isBit; (try dsimp only); (try rw [if_pos c_1_1]); first | done | rfl)).symm (by decide +kernel) dX2_isBit_14
  · refine lv_iload_n hx hb dX2_isBit_4 rfl (lv_at hl 0 rfl) ?_
    refine lv_iconst (v := 1) hx hb dX2_isBit_5 (by decide) ?_
    refine lv_icmp_ne (tgt := 13) hx hb dX2_isBit_6 (by decide) (fun c_6_2 => ?_) (fun c_6_2 => ?_)
    · refine lv_iconst (v := 0) hx hb dX2_isBit_13 (by decide) ?_
      exact ro_zret hx hb hr hS hlocks (show s_X2_isBit number = 0 from by (unfold s_X2_isBit; (try dsimp only); (try rw [if_neg c_1_1]); (try rw [if_neg c_6_2]); first | done | rfl)).symm (by decide +kernel) dX2_isBit_14
    · refine lv_iconst (v := 1) hx hb dX2_isBit_9 (by decide) ?_
      refine lv_goto (tgt := 14) hx hb dX2_isBit_10 (by decide) ?_
      exact ro_zret hx hb hr hS hlocks (show s_X2_isBit number = 1 from by (unfold s_X2_isBit; (try dsimp only); (try rw [if_neg c_1_1]); (try rw [if_pos c_6_2]); first | done | rfl)).symm (by decide +kernel) dX2_isBit_14

def s_X2_withBit (bits : Int32) (place : Int32) (bit : Int32) : Int32 := ((bits &&& ((1 <<< (place &&& 31)) ^^^ (-1))) ||| (bit <<< (place &&& 31)))
set_option maxHeartbeats 4000000 in
set_option maxRecDepth 100000 in
theorem c_X2_withBit (l : Launch) (D : va_G) (bits : Int32) (place : Int32) (bit : Int32) (sz : Nat) : Met l yX2_withBit wsX2_withBit ({ frames := 0, cells := 0, slots := 0, locals := 0 }) (va_Pc [.int bits, .int place, .int bit] (cPre D ([] : List (ClassId × FieldType)) ([] : va_W) sz)) (va_Qi (fun r (_ : Unit) => r = s_X2_withBit bits place bit) (fun _ _ => True) (fun q => sz ≤ q)) 0 0 (fun q => sz ≤ q) := by
  refine Met.ofW (cc := cX2_withBit) (maxL := 3) (ret := (some .int)) (by decide) rfl ?_
  intro p e s m args below meth c s₁ B hml hv
  obtain ⟨rfl, hsz, hP, hK, hD, hN⟩ := hv
  have hx := B.exec
  have hb := B.bytes
  have hr := B.returns
  have hts := atoms_spec (ws := wsX2_withBit) B.pre
  have hown : s.vm.findClass RX2 = some m.cls := findClass_of_methodNamed B.named
  have hlocks := B.notSynchronized
  subst hsz
  obtain ⟨A, hAe⟩ : ∃ A : Nat → Prop, A = (fun q : Nat => s.heap.size ≤ q) := ⟨_, rfl⟩
  have hA : ∀ q : Nat, s.heap.size ≤ q → A q := fun q h => by rw [hAe]; exact h
  have hS : va_S A s.heap s.heap [] := va_S.rf
  subst hAe
  have hl := lv_entry ([.int bits, .int place, .int bit]) (n := 3) (Nat.le_of_ble_eq_true rfl)
  rw [lg_entry_eq]
  generalize (lg_sl ([.int bits, .int place, .int bit]) ++ List.replicate (3 - (lg_sl ([.int bits, .int place, .int bit])).length) Slot.unset).toArray = ls at hl ⊢
  replace hl : lv_has ls 3 [(0, .int bits), (1, .int place), (2, .int bit)] := hl
  have hKe := hK.sub (tys' := []) [] rfl
  refine lv_iload_n hx hb dX2_withBit_0 rfl (lv_at hl 0 rfl) ?_
  refine lv_iconst (v := 1) hx hb dX2_withBit_1 (by decide) ?_
  refine lv_iload_n hx hb dX2_withBit_2 rfl (lv_at hl 1 rfl) ?_
  refine lv_ishl hx hb dX2_withBit_3 ?_
  refine lv_iconst (v := (-1)) hx hb dX2_withBit_4 (by decide) ?_
  refine lv_ixor hx hb dX2_withBit_5 ?_
  refine lv_iand hx hb dX2_withBit_6 ?_
  refine lv_iload_n hx hb dX2_withBit_7 rfl (lv_at hl 2 rfl) ?_
  refine lv_iload_n hx hb dX2_withBit_8 rfl (lv_at hl 1 rfl) ?_
  refine lv_ishl hx hb dX2_withBit_9 ?_
  refine lv_ior hx hb dX2_withBit_10 ?_
  exact ro_iret hx hb hr hS hlocks (show s_X2_withBit bits place bit = ((bits &&& ((1 <<< (place &&& 31)) ^^^ (-1))) ||| (bit <<< (place &&& 31))) from by (unfold s_X2_withBit; (try dsimp only); first | done | rfl)).symm dX2_withBit_11

def s_J6_bitCount_0f7a4 (bits : Int32) : Int32 := ((((((((bits - (((bits.toUInt32 >>> ((1 : Int32).toUInt32 &&& Int32.toUInt32 31)).toInt32) &&& 1431655765)) &&& 858993459) + ((((bits - (((bits.toUInt32 >>> ((1 : Int32).toUInt32 &&& Int32.toUInt32 31)).toInt32) &&& 1431655765)).toUInt32 >>> ((2 : Int32).toUInt32 &&& Int32.toUInt32 31)).toInt32) &&& 858993459)) + (((((bits - (((bits.toUInt32 >>> ((1 : Int32).toUInt32 &&& Int32.toUInt32 31)).toInt32) &&& 1431655765)) &&& 858993459) + ((((bits - (((bits.toUInt32 >>> ((1 : Int32).toUInt32 &&& Int32.toUInt32 31)).toInt32) &&& 1431655765)).toUInt32 >>> ((2 : Int32).toUInt32 &&& Int32.toUInt32 31)).toInt32) &&& 858993459)).toUInt32 >>> ((4 : Int32).toUInt32 &&& Int32.toUInt32 31)).toInt32)) &&& 252645135) + (((((((bits - (((bits.toUInt32 >>> ((1 : Int32).toUInt32 &&& Int32.toUInt32 31)).toInt32) &&& 1431655765)) &&& 858993459) + ((((bits - (((bits.toUInt32 >>> ((1 : Int32).toUInt32 &&& Int32.toUInt32 31)).toInt32) &&& 1431655765)).toUInt32 >>> ((2 : Int32).toUInt32 &&& Int32.toUInt32 31)).toInt32) &&& 858993459)) + (((((bits - (((bits.toUInt32 >>> ((1 : Int32).toUInt32 &&& Int32.toUInt32 31)).toInt32) &&& 1431655765)) &&& 858993459) + ((((bits - (((bits.toUInt32 >>> ((1 : Int32).toUInt32 &&& Int32.toUInt32 31)).toInt32) &&& 1431655765)).toUInt32 >>> ((2 : Int32).toUInt32 &&& Int32.toUInt32 31)).toInt32) &&& 858993459)).toUInt32 >>> ((4 : Int32).toUInt32 &&& Int32.toUInt32 31)).toInt32)) &&& 252645135).toUInt32 >>> ((8 : Int32).toUInt32 &&& Int32.toUInt32 31)).toInt32)) + ((((((((bits - (((bits.toUInt32 >>> ((1 : Int32).toUInt32 &&& Int32.toUInt32 31)).toInt32) &&& 1431655765)) &&& 858993459) + ((((bits - (((bits.toUInt32 >>> ((1 : Int32).toUInt32 &&& Int32.toUInt32 31)).toInt32) &&& 1431655765)).toUInt32 >>> ((2 : Int32).toUInt32 &&& Int32.toUInt32 31)).toInt32) &&& 858993459)) + (((((bits - (((bits.toUInt32 >>> ((1 : Int32).toUInt32 &&& Int32.toUInt32 31)).toInt32) &&& 1431655765)) &&& 858993459) + ((((bits - (((bits.toUInt32 >>> ((1 : Int32).toUInt32 &&& Int32.toUInt32 31)).toInt32) &&& 1431655765)).toUInt32 >>> ((2 : Int32).toUInt32 &&& Int32.toUInt32 31)).toInt32) &&& 858993459)).toUInt32 >>> ((4 : Int32).toUInt32 &&& Int32.toUInt32 31)).toInt32)) &&& 252645135) + (((((((bits - (((bits.toUInt32 >>> ((1 : Int32).toUInt32 &&& Int32.toUInt32 31)).toInt32) &&& 1431655765)) &&& 858993459) + ((((bits - (((bits.toUInt32 >>> ((1 : Int32).toUInt32 &&& Int32.toUInt32 31)).toInt32) &&& 1431655765)).toUInt32 >>> ((2 : Int32).toUInt32 &&& Int32.toUInt32 31)).toInt32) &&& 858993459)) + (((((bits - (((bits.toUInt32 >>> ((1 : Int32).toUInt32 &&& Int32.toUInt32 31)).toInt32) &&& 1431655765)) &&& 858993459) + ((((bits - (((bits.toUInt32 >>> ((1 : Int32).toUInt32 &&& Int32.toUInt32 31)).toInt32) &&& 1431655765)).toUInt32 >>> ((2 : Int32).toUInt32 &&& Int32.toUInt32 31)).toInt32) &&& 858993459)).toUInt32 >>> ((4 : Int32).toUInt32 &&& Int32.toUInt32 31)).toInt32)) &&& 252645135).toUInt32 >>> ((8 : Int32).toUInt32 &&& Int32.toUInt32 31)).toInt32)).toUInt32 >>> ((16 : Int32).toUInt32 &&& Int32.toUInt32 31)).toInt32)) &&& 63)
set_option maxHeartbeats 4000000 in
set_option maxRecDepth 100000 in
theorem c_J6_bitCount_0f7a4 (l : Launch) (D : va_G) (bits : Int32) (sz : Nat) : Met l yJ6_bitCount_0f7a4 wsJ6_bitCount_0f7a4 ({ frames := 0, cells := 0, slots := 0, locals := 0 }) (va_Pc [.int bits] (cPre D ([] : List (ClassId × FieldType)) ([] : va_W) sz)) (va_Qi (fun r (_ : Unit) => r = s_J6_bitCount_0f7a4 bits) (fun _ _ => True) (fun q => sz ≤ q)) 0 0 (fun q => sz ≤ q) := by
  refine Met.ofW (cc := cJ6_bitCount_0f7a4) (maxL := 1) (ret := (some .int)) (by decide) rfl ?_
  intro p e s m args below meth c s₁ B hml hv
  obtain ⟨rfl, hsz, hP, hK, hD, hN⟩ := hv
  have hx := B.exec
  have hb := B.bytes
  have hr := B.returns
  have hts := atoms_spec (ws := wsJ6_bitCount_0f7a4) B.pre
  have hown : s.vm.findClass RJ6 = some m.cls := findClass_of_methodNamed B.named
  have hlocks := B.notSynchronized
  subst hsz
  obtain ⟨A, hAe⟩ : ∃ A : Nat → Prop, A = (fun q : Nat => s.heap.size ≤ q) := ⟨_, rfl⟩
  have hA : ∀ q : Nat, s.heap.size ≤ q → A q := fun q h => by rw [hAe]; exact h
  have hS : va_S A s.heap s.heap [] := va_S.rf
  subst hAe
  have hl := lv_entry ([.int bits]) (n := 1) (Nat.le_of_ble_eq_true rfl)
  rw [lg_entry_eq]
  generalize (lg_sl ([.int bits]) ++ List.replicate (1 - (lg_sl ([.int bits])).length) Slot.unset).toArray = ls at hl ⊢
  replace hl : lv_has ls 1 [(0, .int bits)] := hl
  have hKe := hK.sub (tys' := []) [] rfl
  refine lv_iload_n hx hb dJ6_bitCount_0f7a4_0 rfl (lv_at hl 0 rfl) ?_
  refine lv_iload_n hx hb dJ6_bitCount_0f7a4_1 rfl (lv_at hl 0 rfl) ?_
  refine lv_iconst (v := 1) hx hb dJ6_bitCount_0f7a4_2 (by decide) ?_
  refine lv_iushr hx hb dJ6_bitCount_0f7a4_3 rfl ?_
  refine lv_ldcw (v := 1431655765) hx hb hown (hts (.constant RJ6 265 (1431655765)) (by decide +kernel)) dJ6_bitCount_0f7a4_4 ?_
  refine lv_iand hx hb dJ6_bitCount_0f7a4_7 ?_
  refine lv_isub hx hb dJ6_bitCount_0f7a4_8 ?_
  refine lv_istore_n (lv' := [(0, .int (bits - (((bits.toUInt32 >>> ((1 : Int32).toUInt32 &&& Int32.toUInt32 31)).toInt32) &&& 1431655765)))]) hx hb dJ6_bitCount_0f7a4_9 rfl hl (by decide) rfl (fun ls hl => ?_)
  refine lv_iload_n hx hb dJ6_bitCount_0f7a4_10 rfl (lv_at hl 0 rfl) ?_
  refine lv_ldcw (v := 858993459) hx hb hown (hts (.constant RJ6 266 (858993459)) (by decide +kernel)) dJ6_bitCount_0f7a4_11 ?_
  refine lv_iand hx hb dJ6_bitCount_0f7a4_14 ?_
  refine lv_iload_n hx hb dJ6_bitCount_0f7a4_15 rfl (lv_at hl 0 rfl) ?_
  refine lv_iconst (v := 2) hx hb dJ6_bitCount_0f7a4_16 (by decide) ?_
  refine lv_iushr hx hb dJ6_bitCount_0f7a4_17 rfl ?_
  refine lv_ldcw (v := 858993459) hx hb hown (hts (.constant RJ6 266 (858993459)) (by decide +kernel)) dJ6_bitCount_0f7a4_18 ?_
  refine lv_iand hx hb dJ6_bitCount_0f7a4_21 ?_
  refine lv_iadd hx hb dJ6_bitCount_0f7a4_22 ?_
  refine lv_istore_n (lv' := [(0, .int (((bits - (((bits.toUInt32 >>> ((1 : Int32).toUInt32 &&& Int32.toUInt32 31)).toInt32) &&& 1431655765)) &&& 858993459) + ((((bits - (((bits.toUInt32 >>> ((1 : Int32).toUInt32 &&& Int32.toUInt32 31)).toInt32) &&& 1431655765)).toUInt32 >>> ((2 : Int32).toUInt32 &&& Int32.toUInt32 31)).toInt32) &&& 858993459)))]) hx hb dJ6_bitCount_0f7a4_23 rfl hl (by decide) rfl (fun ls hl => ?_)
  refine lv_iload_n hx hb dJ6_bitCount_0f7a4_24 rfl (lv_at hl 0 rfl) ?_
  refine lv_iload_n hx hb dJ6_bitCount_0f7a4_25 rfl (lv_at hl 0 rfl) ?_
  refine lv_iconst (v := 4) hx hb dJ6_bitCount_0f7a4_26 (by decide) ?_
  refine lv_iushr hx hb dJ6_bitCount_0f7a4_27 rfl ?_
  refine lv_iadd hx hb dJ6_bitCount_0f7a4_28 ?_
  refine lv_ldcw (v := 252645135) hx hb hown (hts (.constant RJ6 267 (252645135)) (by decide +kernel)) dJ6_bitCount_0f7a4_29 ?_
  refine lv_iand hx hb dJ6_bitCount_0f7a4_32 ?_
  refine lv_istore_n (lv' := [(0, .int (((((bits - (((bits.toUInt32 >>> ((1 : Int32).toUInt32 &&& Int32.toUInt32 31)).toInt32) &&& 1431655765)) &&& 858993459) + ((((bits - (((bits.toUInt32 >>> ((1 : Int32).toUInt32 &&& Int32.toUInt32 31)).toInt32) &&& 1431655765)).toUInt32 >>> ((2 : Int32).toUInt32 &&& Int32.toUInt32 31)).toInt32) &&& 858993459)) + (((((bits - (((bits.toUInt32 >>> ((1 : Int32).toUInt32 &&& Int32.toUInt32 31)).toInt32) &&& 1431655765)) &&& 858993459) + ((((bits - (((bits.toUInt32 >>> ((1 : Int32).toUInt32 &&& Int32.toUInt32 31)).toInt32) &&& 1431655765)).toUInt32 >>> ((2 : Int32).toUInt32 &&& Int32.toUInt32 31)).toInt32) &&& 858993459)).toUInt32 >>> ((4 : Int32).toUInt32 &&& Int32.toUInt32 31)).toInt32)) &&& 252645135))]) hx hb dJ6_bitCount_0f7a4_33 rfl hl (by decide) rfl (fun ls hl => ?_)
  refine lv_iload_n hx hb dJ6_bitCount_0f7a4_34 rfl (lv_at hl 0 rfl) ?_
  refine lv_iload_n hx hb dJ6_bitCount_0f7a4_35 rfl (lv_at hl 0 rfl) ?_
  refine lv_bipush (v := 8) hx hb dJ6_bitCount_0f7a4_36 (by decide) ?_
  refine lv_iushr hx hb dJ6_bitCount_0f7a4_38 rfl ?_
  refine lv_iadd hx hb dJ6_bitCount_0f7a4_39 ?_
  refine lv_istore_n (lv' := [(0, .int ((((((bits - (((bits.toUInt32 >>> ((1 : Int32).toUInt32 &&& Int32.toUInt32 31)).toInt32) &&& 1431655765)) &&& 858993459) + ((((bits - (((bits.toUInt32 >>> ((1 : Int32).toUInt32 &&& Int32.toUInt32 31)).toInt32) &&& 1431655765)).toUInt32 >>> ((2 : Int32).toUInt32 &&& Int32.toUInt32 31)).toInt32) &&& 858993459)) + (((((bits - (((bits.toUInt32 >>> ((1 : Int32).toUInt32 &&& Int32.toUInt32 31)).toInt32) &&& 1431655765)) &&& 858993459) + ((((bits - (((bits.toUInt32 >>> ((1 : Int32).toUInt32 &&& Int32.toUInt32 31)).toInt32) &&& 1431655765)).toUInt32 >>> ((2 : Int32).toUInt32 &&& Int32.toUInt32 31)).toInt32) &&& 858993459)).toUInt32 >>> ((4 : Int32).toUInt32 &&& Int32.toUInt32 31)).toInt32)) &&& 252645135) + (((((((bits - (((bits.toUInt32 >>> ((1 : Int32).toUInt32 &&& Int32.toUInt32 31)).toInt32) &&& 1431655765)) &&& 858993459) + ((((bits - (((bits.toUInt32 >>> ((1 : Int32).toUInt32 &&& Int32.toUInt32 31)).toInt32) &&& 1431655765)).toUInt32 >>> ((2 : Int32).toUInt32 &&& Int32.toUInt32 31)).toInt32) &&& 858993459)) + (((((bits - (((bits.toUInt32 >>> ((1 : Int32).toUInt32 &&& Int32.toUInt32 31)).toInt32) &&& 1431655765)) &&& 858993459) + ((((bits - (((bits.toUInt32 >>> ((1 : Int32).toUInt32 &&& Int32.toUInt32 31)).toInt32) &&& 1431655765)).toUInt32 >>> ((2 : Int32).toUInt32 &&& Int32.toUInt32 31)).toInt32) &&& 858993459)).toUInt32 >>> ((4 : Int32).toUInt32 &&& Int32.toUInt32 31)).toInt32)) &&& 252645135).toUInt32 >>> ((8 : Int32).toUInt32 &&& Int32.toUInt32 31)).toInt32)))]) hx hb dJ6_bitCount_0f7a4_40 rfl hl (by decide) rfl (fun ls hl => ?_)
  refine lv_iload_n hx hb dJ6_bitCount_0f7a4_41 rfl (lv_at hl 0 rfl) ?_
  refine lv_iload_n hx hb dJ6_bitCount_0f7a4_42 rfl (lv_at hl 0 rfl) ?_
  refine lv_bipush (v := 16) hx hb dJ6_bitCount_0f7a4_43 (by decide) ?_
  refine lv_iushr hx hb dJ6_bitCount_0f7a4_45 rfl ?_
  refine lv_iadd hx hb dJ6_bitCount_0f7a4_46 ?_
  refine lv_istore_n (lv' := [(0, .int (((((((bits - (((bits.toUInt32 >>> ((1 : Int32).toUInt32 &&& Int32.toUInt32 31)).toInt32) &&& 1431655765)) &&& 858993459) + ((((bits - (((bits.toUInt32 >>> ((1 : Int32).toUInt32 &&& Int32.toUInt32 31)).toInt32) &&& 1431655765)).toUInt32 >>> ((2 : Int32).toUInt32 &&& Int32.toUInt32 31)).toInt32) &&& 858993459)) + (((((bits - (((bits.toUInt32 >>> ((1 : Int32).toUInt32 &&& Int32.toUInt32 31)).toInt32) &&& 1431655765)) &&& 858993459) + ((((bits - (((bits.toUInt32 >>> ((1 : Int32).toUInt32 &&& Int32.toUInt32 31)).toInt32) &&& 1431655765)).toUInt32 >>> ((2 : Int32).toUInt32 &&& Int32.toUInt32 31)).toInt32) &&& 858993459)).toUInt32 >>> ((4 : Int32).toUInt32 &&& Int32.toUInt32 31)).toInt32)) &&& 252645135) + (((((((bits - (((bits.toUInt32 >>> ((1 : Int32).toUInt32 &&& Int32.toUInt32 31)).toInt32) &&& 1431655765)) &&& 858993459) + ((((bits - (((bits.toUInt32 >>> ((1 : Int32).toUInt32 &&& Int32.toUInt32 31)).toInt32) &&& 1431655765)).toUInt32 >>> ((2 : Int32).toUInt32 &&& Int32.toUInt32 31)).toInt32) &&& 858993459)) + (((((bits - (((bits.toUInt32 >>> ((1 : Int32).toUInt32 &&& Int32.toUInt32 31)).toInt32) &&& 1431655765)) &&& 858993459) + ((((bits - (((bits.toUInt32 >>> ((1 : Int32).toUInt32 &&& Int32.toUInt32 31)).toInt32) &&& 1431655765)).toUInt32 >>> ((2 : Int32).toUInt32 &&& Int32.toUInt32 31)).toInt32) &&& 858993459)).toUInt32 >>> ((4 : Int32).toUInt32 &&& Int32.toUInt32 31)).toInt32)) &&& 252645135).toUInt32 >>> ((8 : Int32).toUInt32 &&& Int32.toUInt32 31)).toInt32)) + ((((((((bits - (((bits.toUInt32 >>> ((1 : Int32).toUInt32 &&& Int32.toUInt32 31)).toInt32) &&& 1431655765)) &&& 858993459) + ((((bits - (((bits.toUInt32 >>> ((1 : Int32).toUInt32 &&& Int32.toUInt32 31)).toInt32) &&& 1431655765)).toUInt32 >>> ((2 : Int32).toUInt32 &&& Int32.toUInt32 31)).toInt32) &&& 858993459)) + (((((bits - (((bits.toUInt32 >>> ((1 : Int32).toUInt32 &&& Int32.toUInt32 31)).toInt32) &&& 1431655765)) &&& 858993459) + ((((bits - (((bits.toUInt32 >>> ((1 : Int32).toUInt32 &&& Int32.toUInt32 31)).toInt32) &&& 1431655765)).toUInt32 >>> ((2 : Int32).toUInt32 &&& Int32.toUInt32 31)).toInt32) &&& 858993459)).toUInt32 >>> ((4 : Int32).toUInt32 &&& Int32.toUInt32 31)).toInt32)) &&& 252645135) + (((((((bits - (((bits.toUInt32 >>> ((1 : Int32).toUInt32 &&& Int32.toUInt32 31)).toInt32) &&& 1431655765)) &&& 858993459) + ((((bits - (((bits.toUInt32 >>> ((1 : Int32).toUInt32 &&& Int32.toUInt32 31)).toInt32) &&& 1431655765)).toUInt32 >>> ((2 : Int32).toUInt32 &&& Int32.toUInt32 31)).toInt32) &&& 858993459)) + (((((bits - (((bits.toUInt32 >>> ((1 : Int32).toUInt32 &&& Int32.toUInt32 31)).toInt32) &&& 1431655765)) &&& 858993459) + ((((bits - (((bits.toUInt32 >>> ((1 : Int32).toUInt32 &&& Int32.toUInt32 31)).toInt32) &&& 1431655765)).toUInt32 >>> ((2 : Int32).toUInt32 &&& Int32.toUInt32 31)).toInt32) &&& 858993459)).toUInt32 >>> ((4 : Int32).toUInt32 &&& Int32.toUInt32 31)).toInt32)) &&& 252645135).toUInt32 >>> ((8 : Int32).toUInt32 &&& Int32.toUInt32 31)).toInt32)).toUInt32 >>> ((16 : Int32).toUInt32 &&& Int32.toUInt32 31)).toInt32)))]) hx hb dJ6_bitCount_0f7a4_47 rfl hl (by decide) rfl (fun ls hl => ?_)
  refine lv_iload_n hx hb dJ6_bitCount_0f7a4_48 rfl (lv_at hl 0 rfl) ?_
  refine lv_bipush (v := 63) hx hb dJ6_bitCount_0f7a4_49 (by decide) ?_
  refine lv_iand hx hb dJ6_bitCount_0f7a4_51 ?_
  exact ro_iret hx hb hr hS hlocks (show s_J6_bitCount_0f7a4 bits = ((((((((bits - (((bits.toUInt32 >>> ((1 : Int32).toUInt32 &&& Int32.toUInt32 31)).toInt32) &&& 1431655765)) &&& 858993459) + ((((bits - (((bits.toUInt32 >>> ((1 : Int32).toUInt32 &&& Int32.toUInt32 31)).toInt32) &&& 1431655765)).toUInt32 >>> ((2 : Int32).toUInt32 &&& Int32.toUInt32 31)).toInt32) &&& 858993459)) + (((((bits - (((bits.toUInt32 >>> ((1 : Int32).toUInt32 &&& Int32.toUInt32 31)).toInt32) &&& 1431655765)) &&& 858993459) + ((((bits - (((bits.toUInt32 >>> ((1 : Int32).toUInt32 &&& Int32.toUInt32 31)).toInt32) &&& 1431655765)).toUInt32 >>> ((2 : Int32).toUInt32 &&& Int32.toUInt32 31)).toInt32) &&& 858993459)).toUInt32 >>> ((4 : Int32).toUInt32 &&& Int32.toUInt32 31)).toInt32)) &&& 252645135) + (((((((bits - (((bits.toUInt32 >>> ((1 : Int32).toUInt32 &&& Int32.toUInt32 31)).toInt32) &&& 1431655765)) &&& 858993459) + ((((bits - (((bits.toUInt32 >>> ((1 : Int32).toUInt32 &&& Int32.toUInt32 31)).toInt32) &&& 1431655765)).toUInt32 >>> ((2 : Int32).toUInt32 &&& Int32.toUInt32 31)).toInt32) &&& 858993459)) + (((((bits - (((bits.toUInt32 >>> ((1 : Int32).toUInt32 &&& Int32.toUInt32 31)).toInt32) &&& 1431655765)) &&& 858993459) + ((((bits - (((bits.toUInt32 >>> ((1 : Int32).toUInt32 &&& Int32.toUInt32 31)).toInt32) &&& 1431655765)).toUInt32 >>> ((2 : Int32).toUInt32 &&& Int32.toUInt32 31)).toInt32) &&& 858993459)).toUInt32 >>> ((4 : Int32).toUInt32 &&& Int32.toUInt32 31)).toInt32)) &&& 252645135).toUInt32 >>> ((8 : Int32).toUInt32 &&& Int32.toUInt32 31)).toInt32)) + ((((((((bits - (((bits.toUInt32 >>> ((1 : Int32).toUInt32 &&& Int32.toUInt32 31)).toInt32) &&& 1431655765)) &&& 858993459) + ((((bits - (((bits.toUInt32 >>> ((1 : Int32).toUInt32 &&& Int32.toUInt32 31)).toInt32) &&& 1431655765)).toUInt32 >>> ((2 : Int32).toUInt32 &&& Int32.toUInt32 31)).toInt32) &&& 858993459)) + (((((bits - (((bits.toUInt32 >>> ((1 : Int32).toUInt32 &&& Int32.toUInt32 31)).toInt32) &&& 1431655765)) &&& 858993459) + ((((bits - (((bits.toUInt32 >>> ((1 : Int32).toUInt32 &&& Int32.toUInt32 31)).toInt32) &&& 1431655765)).toUInt32 >>> ((2 : Int32).toUInt32 &&& Int32.toUInt32 31)).toInt32) &&& 858993459)).toUInt32 >>> ((4 : Int32).toUInt32 &&& Int32.toUInt32 31)).toInt32)) &&& 252645135) + (((((((bits - (((bits.toUInt32 >>> ((1 : Int32).toUInt32 &&& Int32.toUInt32 31)).toInt32) &&& 1431655765)) &&& 858993459) + ((((bits - (((bits.toUInt32 >>> ((1 : Int32).toUInt32 &&& Int32.toUInt32 31)).toInt32) &&& 1431655765)).toUInt32 >>> ((2 : Int32).toUInt32 &&& Int32.toUInt32 31)).toInt32) &&& 858993459)) + (((((bits - (((bits.toUInt32 >>> ((1 : Int32).toUInt32 &&& Int32.toUInt32 31)).toInt32) &&& 1431655765)) &&& 858993459) + ((((bits - (((bits.toUInt32 >>> ((1 : Int32).toUInt32 &&& Int32.toUInt32 31)).toInt32) &&& 1431655765)).toUInt32 >>> ((2 : Int32).toUInt32 &&& Int32.toUInt32 31)).toInt32) &&& 858993459)).toUInt32 >>> ((4 : Int32).toUInt32 &&& Int32.toUInt32 31)).toInt32)) &&& 252645135).toUInt32 >>> ((8 : Int32).toUInt32 &&& Int32.toUInt32 31)).toInt32)).toUInt32 >>> ((16 : Int32).toUInt32 &&& Int32.toUInt32 31)).toInt32)) &&& 63) from by (unfold s_J6_bitCount_0f7a4; (try dsimp only); first | done | rfl)).symm dJ6_bitCount_0f7a4_52

def s_X2_isBetter (bits : Int32) (best : Int32) : Int32 := (if best = (-9) then 1 else (if ((s_J6_bitCount_0f7a4 bits) - (s_J6_bitCount_0f7a4 best)) < 0 then 1 else (if ((s_J6_bitCount_0f7a4 bits) - (s_J6_bitCount_0f7a4 best)) = 0 then (if best ≤ bits then 0 else 1) else 0)))
set_option maxHeartbeats 4000000 in
set_option maxRecDepth 100000 in
theorem c_X2_isBetter (l : Launch) (D : va_G) (bits : Int32) (best : Int32) (sz : Nat) : Met l yX2_isBetter wsX2_isBetter ({ frames := 1, cells := 0, slots := 0, locals := 20 }) (va_Pc [.int bits, .int best] (cPre D ([] : List (ClassId × FieldType)) ([] : va_W) sz)) (va_Qi (fun r (_ : Unit) => r = s_X2_isBetter bits best) (fun _ _ => True) (fun q => sz ≤ q)) 0 0 (fun q => sz ≤ q) := by
  refine Met.ofW (cc := cX2_isBetter) (maxL := 3) (ret := (some .boolean)) (by decide) rfl ?_
  intro p e s m args below meth c s₁ B hml hv
  obtain ⟨rfl, hsz, hP, hK, hD, hN⟩ := hv
  have hx := B.exec
  have hb := B.bytes
  have hr := B.returns
  have hts := atoms_spec (ws := wsX2_isBetter) B.pre
  have hown : s.vm.findClass RX2 = some m.cls := findClass_of_methodNamed B.named
  have hlocks := B.notSynchronized
  subst hsz
  obtain ⟨A, hAe⟩ : ∃ A : Nat → Prop, A = (fun q : Nat => s.heap.size ≤ q) := ⟨_, rfl⟩
  have hA : ∀ q : Nat, s.heap.size ≤ q → A q := fun q h => by rw [hAe]; exact h
  have hS : va_S A s.heap s.heap [] := va_S.rf
  subst hAe
  have hl := lv_entry ([.int bits, .int best]) (n := 3) (Nat.le_of_ble_eq_true rfl)
  rw [lg_entry_eq]
  generalize (lg_sl ([.int bits, .int best]) ++ List.replicate (3 - (lg_sl ([.int bits, .int best])).length) Slot.unset).toArray = ls at hl ⊢
  replace hl : lv_has ls 3 [(0, .int bits), (1, .int best)] := hl
  have hKe := hK.sub (tys' := []) [] rfl
  refine lv_iload_n hx hb dX2_isBetter_0 rfl (lv_at hl 1 rfl) ?_
  refine lv_bipush (v := (-9)) hx hb dX2_isBetter_1 (by decide) ?_
  refine lv_icmp_ne (tgt := 8) hx hb dX2_isBetter_3 (by decide) (fun c_3_1 => ?_) (fun c_3_1 => ?_)
  · refine lv_iload_n hx hb dX2_isBetter_8 rfl (lv_at hl 0 rfl) ?_
    refine ro_i (D := D) (va_runS (As := [.int bits]) (rest := []) ⟨hx, hb, hml, hown, hts⟩ (c_J6_bitCount_0f7a4 l D bits  _) (va_cwS 1 hts gX2_isBetter_J6_bitCount_0f7a4 rfl rfl rfl (by decide +kernel) ⟨Nat.le_of_ble_eq_true rfl, Nat.le_of_ble_eq_true rfl⟩) ⟨cPre.blind, cPre.mk vP0 hKe vD0 hN⟩ rfl rfl hl.1 rfl (lv_room (Nat.le_of_ble_eq_true rfl)) dX2_isBetter_9 ⟨Nat.zero_le _, Nat.zero_le _⟩) hS hA (fun H locs hkp0 hS => ?_)
    replace hP := hkp0 _ hP
    refine lv_iload_n hx hb dX2_isBetter_12 rfl (lv_at hl 1 rfl) ?_
    refine ro_i (D := D) (va_runS (As := [.int best]) (rest := [.int (s_J6_bitCount_0f7a4 bits)]) ⟨hx, hb, hml, hown, hts⟩ (c_J6_bitCount_0f7a4 l D best  _) (va_cwS 1 hts gX2_isBetter_J6_bitCount_0f7a4 rfl rfl rfl (by decide +kernel) ⟨Nat.le_of_ble_eq_true rfl, Nat.le_of_ble_eq_true rfl⟩) ⟨cPre.blind, cPre.mk vP0 hKe vD0 hN⟩ rfl rfl hl.1 rfl (lv_room (Nat.le_of_ble_eq_true rfl)) dX2_isBetter_13 ⟨Nat.zero_le _, Nat.zero_le _⟩) hS hA (fun H locs hkp0 hS => ?_)
    replace hP := hkp0 _ hP
    refine lv_isub hx hb dX2_isBetter_16 ?_
    refine lv_istore_n (lv' := [(2, .int ((s_J6_bitCount_0f7a4 bits) - (s_J6_bitCount_0f7a4 best))), (0, .int bits), (1, .int best)]) hx hb dX2_isBetter_17 rfl hl (by decide) rfl (fun ls hl => ?_)
    refine lv_iload_n hx hb dX2_isBetter_18 rfl (lv_at hl 0 rfl) ?_
    refine lv_if_lt (tgt := 31) hx hb dX2_isBetter_19 (by decide) (fun c_19_2 => ?_) (fun c_19_2 => ?_)
    · refine lv_iconst (v := 1) hx hb dX2_isBetter_31 (by decide) ?_
      refine lv_goto (tgt := 36) hx hb dX2_isBetter_32 (by decide) ?_
      exact ro_zret hx hb hr hS hlocks (show s_X2_isBetter bits best = 1 from by (unfold s_X2_isBetter; (try dsimp only); (try rw [if_neg c_3_1]); (try rw [if_pos c_19_2]); first | done | rfl)).symm (by decide +kernel) dX2_isBetter_36
    · refine lv_iload_n hx hb dX2_isBetter_22 rfl (lv_at hl 0 rfl) ?_
      refine lv_if_ne (tgt := 35) hx hb dX2_isBetter_23 (by decide) (fun c_23_3 => ?_) (fun c_23_3 => ?_)
      · refine lv_iconst (v := 0) hx hb dX2_isBetter_35 (by decide) ?_
        exact ro_zret hx hb hr hS hlocks (show s_X2_isBetter bits best = 0 from by (unfold s_X2_isBetter; (try dsimp only); (try rw [if_neg c_3_1]); (try rw [if_neg c_19_2]); (try rw [if_neg c_23_3]); first | done | rfl)).symm (by decide +kernel) dX2_isBetter_36
      · refine lv_iload_n hx hb dX2_isBetter_26 rfl (lv_at hl 1 rfl) ?_
        refine lv_iload_n hx hb dX2_isBetter_27 rfl (lv_at hl 2 rfl) ?_
        refine lv_icmp_ge (tgt := 35) hx hb dX2_isBetter_28 (by decide) (fun c_28_4 => ?_) (fun c_28_4 => ?_)
        · refine lv_iconst (v := 0) hx hb dX2_isBetter_35 (by decide) ?_
          exact ro_zret hx hb hr hS hlocks (show s_X2_isBetter bits best = 0 from by (unfold s_X2_isBetter; (try dsimp only); (try rw [if_neg c_3_1]); (try rw [if_neg c_19_2]); (try rw [if_pos c_23_3]); (try rw [if_pos c_28_4]); first | done | rfl)).symm (by decide +kernel) dX2_isBetter_36
        · refine lv_iconst (v := 1) hx hb dX2_isBetter_31 (by decide) ?_
          refine lv_goto (tgt := 36) hx hb dX2_isBetter_32 (by decide) ?_
          exact ro_zret hx hb hr hS hlocks (show s_X2_isBetter bits best = 1 from by (unfold s_X2_isBetter; (try dsimp only); (try rw [if_neg c_3_1]); (try rw [if_neg c_19_2]); (try rw [if_pos c_23_3]); (try rw [if_neg c_28_4]); first | done | rfl)).symm (by decide +kernel) dX2_isBetter_36
  · refine lv_iconst (v := 1) hx hb dX2_isBetter_6 (by decide) ?_
    exact ro_zret hx hb hr hS hlocks (show s_X2_isBetter bits best = 1 from by (unfold s_X2_isBetter; (try dsimp only); (try rw [if_pos c_3_1]); first | done | rfl)).symm (by decide +kernel) dX2_isBetter_7

def s_X2_isRule (n : Nat) (k : Int32) : Int32 := (if k < 0 then 0 else (if (nI n) ≤ k then 0 else 1))
set_option maxHeartbeats 4000000 in
set_option maxRecDepth 100000 in
theorem c_X2_isRule (l : Launch) (D : va_G) (h : Nat → Nat) (cA : Nat → ClassId) (n : Nat) (by_ : Nat → Int32) (ln : Int32) (pl : Int32) (tk : Int32) (tp : Int32) (may : Int32) (hd : Nat → Int32) (fi : Nat → Int32) (un : Nat → Int32) (sz2 : Int32) (may2 : Int32) (hd2 : Nat → Int32) (fi2 : Nat → Int32) (un2 : Nat → Int32) (on : Int32) (asd : Int32) (io : Nat → Int32) (ia : Nat → Int32) (kept : Int32) (tr : Int64) (k : Int32) (hn : n ≤ 10) (sz : Nat) : Met l yX2_isRule wsX2_isRule ({ frames := 0, cells := 0, slots := 0, locals := 0 }) (va_Pc [.ref (h 0), .int k] (cPre D (tX h cA) (wX h cA by_ ln pl tk tp (nI n) may hd fi un sz2 may2 hd2 fi2 un2 on asd io ia kept tr) sz)) (va_Qi (fun r (_ : Unit) => r = s_X2_isRule n k) (fun _ _ => True) (fun q => sz ≤ q)) 0 0 (fun q => sz ≤ q) := by
  refine Met.ofW (cc := cX2_isRule) (maxL := 2) (ret := (some .boolean)) (by decide) rfl ?_
  intro p e s m args below meth c s₁ B hml hv
  obtain ⟨rfl, hsz, hP, hK, hD, hN⟩ := hv
  have hx := B.exec
  have hb := B.bytes
  have hr := B.returns
  have hts := atoms_spec (ws := wsX2_isRule) B.pre
  have hown : s.vm.findClass RX2 = some m.cls := findClass_of_methodNamed B.named
  have hlocks := B.notSynchronized
  have hinX0 : ∀ w ∈ wsX00, w ∈ wsX2_isRule := fun w h => List.mem_cons_of_mem _ (List.mem_append_right _ h)
  have hinX2 : ∀ w ∈ wsX20, w ∈ wsX2_isRule := fun w h => List.mem_cons_of_mem _ (List.mem_append_left _ (List.mem_append_right _ h))
  subst hsz
  obtain ⟨A, hAe⟩ : ∃ A : Nat → Prop, A = (fun q : Nat => s.heap.size ≤ q) := ⟨_, rfl⟩
  have hA : ∀ q : Nat, s.heap.size ≤ q → A q := fun q h => by rw [hAe]; exact h
  have hS : va_S A s.heap s.heap [] := va_S.rf
  subst hAe
  have hl := lv_entry ([.ref (h 0), .int k]) (n := 2) (Nat.le_of_ble_eq_true rfl)
  rw [lg_entry_eq]
  generalize (lg_sl ([.ref (h 0), .int k]) ++ List.replicate (2 - (lg_sl ([.ref (h 0), .int k])).length) Slot.unset).toArray = ls at hl ⊢
  replace hl : lv_has ls 2 [(0, .ref (h 0)), (1, .int k)] := hl
  have hKe := hK.sub (tys' := []) [] rfl
  refine lv_iload_n hx hb dX2_isRule_0 rfl (lv_at hl 1 rfl) ?_
  refine lv_if_lt (tgt := 19) hx hb dX2_isRule_1 (by decide) (fun c_1_1 => ?_) (fun c_1_1 => ?_)
  · refine lv_iconst (v := 0) hx hb dX2_isRule_19 (by decide) ?_
    exact ro_zret hx hb hr hS hlocks (show s_X2_isRule n k = 0 from by (unfold s_X2_isRule; (try dsimp only); (try rw [if_pos c_1_1]); first | done | rfl)).symm (by decide +kernel) dX2_isRule_20
  · refine lv_iload_n hx hb dX2_isRule_4 rfl (lv_at hl 1 rfl) ?_
    refine lv_aload_n hx hb dX2_isRule_5 rfl (lv_at hl 0 rfl) ?_
    refine va_get (D := D) (ci := 2) (v := .ref (h 3)) (C := RX2) (T := TX2) (N := 9) hx hb hts hinX2 hown hK hP 0 rfl rfl 1 (by decide) (hts (.fieldLink RX2 19 "HoldUnless" "book" "LHoldUnless$RuleBook;") (by decide +kernel)) (fun _ h9 => h9) rfl dX2_isRule_6 ?_
    refine va_getN (D := D) (ci := 0) (v := .int (nI n)) (C := RX0) (T := TX0) (N := 5) hx hb hts hinX0 hown hK hP 3 rfl rfl 0 (by decide) (hN.use 18 rfl) (fun _ h9 => h9) rfl dX2_isRule_9 ?_
    refine lv_icmp_ge (tgt := 19) hx hb dX2_isRule_12 (by decide) (fun c_12_2 => ?_) (fun c_12_2 => ?_)
    · refine lv_iconst (v := 0) hx hb dX2_isRule_19 (by decide) ?_
      exact ro_zret hx hb hr hS hlocks (show s_X2_isRule n k = 0 from by (unfold s_X2_isRule; (try dsimp only); (try rw [if_neg c_1_1]); (try rw [if_pos c_12_2]); first | done | rfl)).symm (by decide +kernel) dX2_isRule_20
    · refine lv_iconst (v := 1) hx hb dX2_isRule_15 (by decide) ?_
      refine lv_goto (tgt := 20) hx hb dX2_isRule_16 (by decide) ?_
      exact ro_zret hx hb hr hS hlocks (show s_X2_isRule n k = 1 from by (unfold s_X2_isRule; (try dsimp only); (try rw [if_neg c_1_1]); (try rw [if_neg c_12_2]); first | done | rfl)).symm (by decide +kernel) dX2_isRule_20

