def wB (a0 : Nat) (a1 : Nat) (a2 : Nat) (a3 : Nat) (b1 : ClassId) (b2 : ClassId) (b3 : ClassId) (sz : Int32) (may : Int32) (hd : Nat → Int32) (fi : Nat → Int32) (un : Nat → Int32) : va_W := [(a0, .inr (0, [.int sz, .int may, .ref a1, .ref a2, .ref a3])), (a1, .inl (b1, 10, .inl hd)), (a2, .inl (b2, 10, .inl fi)), (a3, .inl (b3, 10, .inl un))]
def tB (a0 : Nat) (a1 : Nat) (a2 : Nat) (a3 : Nat) (b1 : ClassId) (b2 : ClassId) (b3 : ClassId) : List (ClassId × FieldType) := [(b1, .int), (b2, .int), (b3, .int)]

def s_X2_bitOf (bits : Int32) (place : Int32) : Int32 := ((bits >>> (place &&& 31)) &&& 1)
set_option maxHeartbeats 4000000 in
set_option maxRecDepth 100000 in
theorem c_X2_bitOf (l : Launch) (D : va_G) (bits : Int32) (place : Int32) (sz : Nat) : Met l yX2_bitOf wsX2_bitOf ({ frames := 0, cells := 0, slots := 0, locals := 0 }) (va_Pc [.int bits, .int place] (cPre D ([] : List (ClassId × FieldType)) ([] : va_W) sz)) (va_Qi (fun r (_ : Unit) => r = s_X2_bitOf bits place) (fun _ _ => True) (fun q => sz ≤ q)) 0 0 (fun q => sz ≤ q) := by
  refine Met.ofW (cc := cX2_bitOf) (maxL := 2) (ret := (some .int)) (by decide) rfl ?_
  intro p e s m args below meth c s₁ B hml hv
  obtain ⟨rfl, hsz, hP, hK, hD, hN⟩ := hv
  have hx := B.exec
  have hb := B.bytes
  have hr := B.returns
  have hts := atoms_spec (ws := wsX2_bitOf) B.pre
  have hown : s.vm.findClass RX2 = some m.cls := findClass_of_methodNamed B.named
  have hlocks := B.notSynchronized
  subst hsz
  obtain ⟨A, hAe⟩ : ∃ A : Nat → Prop, A = (fun q : Nat => s.heap.size ≤ q) := ⟨_, rfl⟩
  have hA : ∀ q : Nat, s.heap.size ≤ q → A q := fun q h => by rw [hAe]; exact h
  have hS : va_S A s.heap s.heap [] := va_S.rf
  subst hAe
  have hl := lv_entry ([.int bits, .int place]) (n := 2) (Nat.le_of_ble_eq_true rfl)
  rw [lg_entry_eq]
  generalize (lg_sl ([.int bits, .int place]) ++ List.replicate (2 - (lg_sl ([.int bits, .int place])).length) Slot.unset).toArray = ls at hl ⊢
  replace hl : lv_has ls 2 [(0, .int bits), (1, .int place)] := hl
  have hKe := hK.sub (tys' := []) [] rfl
  refine lv_iload_n hx hb dX2_bitOf_0 rfl (lv_at hl 0 rfl) ?_
  refine lv_iload_n hx hb dX2_bitOf_1 rfl (lv_at hl 1 rfl) ?_
  refine lv_ishr hx hb dX2_bitOf_2 ?_
  refine lv_iconst (v := 1) hx hb dX2_bitOf_3 (by decide) ?_
  refine lv_iand hx hb dX2_bitOf_4 ?_
  exact ro_iret hx hb hr hS hlocks (show s_X2_bitOf bits place = ((bits >>> (place &&& 31)) &&& 1) from by (unfold s_X2_bitOf; (try dsimp only); first | done | rfl)).symm dX2_bitOf_5

def s_X2_isSentence (a : Int32) : Int32 := (if a < 0 then 0 else (if 8 ≤ a then 0 else 1))
set_option maxHeartbeats 4000000 in
set_option maxRecDepth 100000 in
theorem c_X2_isSentence (l : Launch) (D : va_G) (a : Int32) (sz : Nat) : Met l yX2_isSentence wsX2_isSentence ({ frames := 0, cells := 0, slots := 0, locals := 0 }) (va_Pc [.int a] (cPre D ([] : List (ClassId × FieldType)) ([] : va_W) sz)) (va_Qi (fun r (_ : Unit) => r = s_X2_isSentence a) (fun _ _ => True) (fun q => sz ≤ q)) 0 0 (fun q => sz ≤ q) := by
  refine Met.ofW (cc := cX2_isSentence) (maxL := 1) (ret := (some .boolean)) (by decide) rfl ?_
  intro p e s m args below meth c s₁ B hml hv
  obtain ⟨rfl, hsz, hP, hK, hD, hN⟩ := hv
  have hx := B.exec
  have hb := B.bytes
  have hr := B.returns
  have hts := atoms_spec (ws := wsX2_isSentence) B.pre
  have hown : s.vm.findClass RX2 = some m.cls := findClass_of_methodNamed B.named
  have hlocks := B.notSynchronized
  subst hsz
  obtain ⟨A, hAe⟩ : ∃ A : Nat → Prop, A = (fun q : Nat => s.heap.size ≤ q) := ⟨_, rfl⟩
  have hA : ∀ q : Nat, s.heap.size ≤ q → A q := fun q h => by rw [hAe]; exact h
  have hS : va_S A s.heap s.heap [] := va_S.rf
  subst hAe
  have hl := lv_entry ([.int a]) (n := 1) (Nat.le_of_ble_eq_true rfl)
  rw [lg_entry_eq]
  generalize (lg_sl ([.int a]) ++ List.replicate (1 - (lg_sl ([.int a])).length) Slot.unset).toArray = ls at hl ⊢
  replace hl : lv_has ls 1 [(0, .int a)] := hl
  have hKe := hK.sub (tys' := []) [] rfl
  refine lv_iload_n hx hb dX2_isSentence_0 rfl (lv_at hl 0 rfl) ?_
  refine lv_if_lt (tgt := 14) hx hb dX2_isSentence_1 (by decide) (fun c_1_1 => ?_) (fun c_1_1 => ?_)
  · refine lv_iconst (v := 0) hx hb dX2_isSentence_14 (by decide) ?_
    exact ro_zret hx hb hr hS hlocks (show s_X2_isSentence a = 0 from by (unfold s_X2_isSentence; (try dsimp only); (try rw [if_pos c_1_1]); first | done | rfl)).symm (by decide +kernel) dX2_isSentence_15
  · refine lv_iload_n hx hb dX2_isSentence_4 rfl (lv_at hl 0 rfl) ?_
    refine lv_bipush (v := 8) hx hb dX2_isSentence_5 (by decide) ?_
    refine lv_icmp_ge (tgt := 14) hx hb dX2_isSentence_7 (by decide) (fun c_7_2 => ?_) (fun c_7_2 => ?_)
    · refine lv_iconst (v := 0) hx hb dX2_isSentence_14 (by decide) ?_
      exact ro_zret hx hb hr hS hlocks (show s_X2_isSentence a = 0 from by (unfold s_X2_isSentence; (try dsimp only); (try rw [if_neg c_1_1]); (try rw [if_pos c_7_2]); first | done | rfl)).symm (by decide +kernel) dX2_isSentence_15
    · refine lv_iconst (v := 1) hx hb dX2_isSentence_10 (by decide) ?_
      refine lv_goto (tgt := 15) hx hb dX2_isSentence_11 (by decide) ?_
      exact ro_zret hx hb hr hS hlocks (show s_X2_isSentence a = 1 from by (unfold s_X2_isSentence; (try dsimp only); (try rw [if_neg c_1_1]); (try rw [if_neg c_7_2]); first | done | rfl)).symm (by decide +kernel) dX2_isSentence_15

def s_X0_hasRoom (n : Nat) : Int32 := (if 10 ≤ (nI n) then 0 else 1)
set_option maxHeartbeats 4000000 in
set_option maxRecDepth 100000 in
theorem c_X0_hasRoom (l : Launch) (D : va_G) (a0 : Nat) (a1 : Nat) (a2 : Nat) (a3 : Nat) (b1 : ClassId) (b2 : ClassId) (b3 : ClassId) (n : Nat) (may : Int32) (hd : Nat → Int32) (fi : Nat → Int32) (un : Nat → Int32) (hn : n ≤ 10) (sz : Nat) : Met l yX0_hasRoom wsX0_hasRoom ({ frames := 0, cells := 0, slots := 0, locals := 0 }) (va_Pc [.ref a0] (cPre D (tB a0 a1 a2 a3 b1 b2 b3) (wB a0 a1 a2 a3 b1 b2 b3 (nI n) may hd fi un) sz)) (va_Qi (fun r (_ : Unit) => r = s_X0_hasRoom n) (fun _ _ => True) (fun q => sz ≤ q)) 0 0 (fun q => sz ≤ q) := by
  refine Met.ofW (cc := cX0_hasRoom) (maxL := 1) (ret := (some .boolean)) (by decide) rfl ?_
  intro p e s m args below meth c s₁ B hml hv
  obtain ⟨rfl, hsz, hP, hK, hD, hN⟩ := hv
  have hx := B.exec
  have hb := B.bytes
  have hr := B.returns
  have hts := atoms_spec (ws := wsX0_hasRoom) B.pre
  have hown : s.vm.findClass RX0 = some m.cls := findClass_of_methodNamed B.named
  have hlocks := B.notSynchronized
  have hinX0 : ∀ w ∈ wsX00, w ∈ wsX0_hasRoom := fun w h => List.mem_cons_of_mem _ (List.mem_append_right _ h)
  subst hsz
  obtain ⟨A, hAe⟩ : ∃ A : Nat → Prop, A = (fun q : Nat => s.heap.size ≤ q) := ⟨_, rfl⟩
  have hA : ∀ q : Nat, s.heap.size ≤ q → A q := fun q h => by rw [hAe]; exact h
  have hS : va_S A s.heap s.heap [] := va_S.rf
  subst hAe
  have hl := lv_entry ([.ref a0]) (n := 1) (Nat.le_of_ble_eq_true rfl)
  rw [lg_entry_eq]
  generalize (lg_sl ([.ref a0]) ++ List.replicate (1 - (lg_sl ([.ref a0])).length) Slot.unset).toArray = ls at hl ⊢
  replace hl : lv_has ls 1 [(0, .ref a0)] := hl
  have hKe := hK.sub (tys' := []) [] rfl
  refine lv_aload_n hx hb dX0_hasRoom_0 rfl (lv_at hl 0 rfl) ?_
  refine va_get (D := D) (ci := 0) (v := .int (nI n)) (C := RX0) (T := TX0) (N := 5) hx hb hts hinX0 hown hK hP 0 rfl rfl 0 (by decide) (hts (.fieldLink RX0 21 "HoldUnless$RuleBook" "size" "I") (by decide +kernel)) (fun _ h9 => h9) rfl dX0_hasRoom_1 ?_
  refine lv_bipush (v := 10) hx hb dX0_hasRoom_4 (by decide) ?_
  refine lv_icmp_ge (tgt := 13) hx hb dX0_hasRoom_6 (by decide) (fun c_6_1 => ?_) (fun c_6_1 => ?_)
  · refine lv_iconst (v := 0) hx hb dX0_hasRoom_13 (by decide) ?_
    exact ro_zret hx hb hr hS hlocks (show s_X0_hasRoom n = 0 from by (unfold s_X0_hasRoom; (try dsimp only); (try rw [if_pos c_6_1]); first | done | rfl)).symm (by decide +kernel) dX0_hasRoom_14
  · refine lv_iconst (v := 1) hx hb dX0_hasRoom_9 (by decide) ?_
    refine lv_goto (tgt := 14) hx hb dX0_hasRoom_10 (by decide) ?_
    exact ro_zret hx hb hr hS hlocks (show s_X0_hasRoom n = 1 from by (unfold s_X0_hasRoom; (try dsimp only); (try rw [if_neg c_6_1]); first | done | rfl)).symm (by decide +kernel) dX0_hasRoom_14

def s_X0_bodyHolds (fi : Nat → Int32) (un : Nat → Int32) (k : Nat) (came : Int32) (against : Int32) : Int32 := (if ((fi k) &&& (came ^^^ (-1))) = 0 then (if ((un k) &&& against) = 0 then 1 else 0) else 0)
set_option maxHeartbeats 4000000 in
set_option maxRecDepth 100000 in
theorem c_X0_bodyHolds (l : Launch) (D : va_G) (a0 : Nat) (a1 : Nat) (a2 : Nat) (a3 : Nat) (b1 : ClassId) (b2 : ClassId) (b3 : ClassId) (n : Nat) (may : Int32) (hd : Nat → Int32) (fi : Nat → Int32) (un : Nat → Int32) (k : Nat) (came : Int32) (against : Int32) (hk : k < 10) (sz : Nat) : Met l yX0_bodyHolds wsX0_bodyHolds ({ frames := 0, cells := 0, slots := 0, locals := 0 }) (va_Pc [.ref a0, .int (nI k), .int came, .int against] (cPre D (tB a0 a1 a2 a3 b1 b2 b3) (wB a0 a1 a2 a3 b1 b2 b3 (nI n) may hd fi un) sz)) (va_Qi (fun r (_ : Unit) => r = s_X0_bodyHolds fi un k came against) (fun _ _ => True) (fun q => sz ≤ q)) 0 0 (fun q => sz ≤ q) := by
  refine Met.ofW (cc := cX0_bodyHolds) (maxL := 4) (ret := (some .boolean)) (by decide) rfl ?_
  intro p e s m args below meth c s₁ B hml hv
  obtain ⟨rfl, hsz, hP, hK, hD, hN⟩ := hv
  have hx := B.exec
  have hb := B.bytes
  have hr := B.returns
  have hts := atoms_spec (ws := wsX0_bodyHolds) B.pre
  have hown : s.vm.findClass RX0 = some m.cls := findClass_of_methodNamed B.named
  have hlocks := B.notSynchronized
  have hinX0 : ∀ w ∈ wsX00, w ∈ wsX0_bodyHolds := fun w h => List.mem_cons_of_mem _ (List.mem_append_right _ h)
  subst hsz
  obtain ⟨A, hAe⟩ : ∃ A : Nat → Prop, A = (fun q : Nat => s.heap.size ≤ q) := ⟨_, rfl⟩
  have hA : ∀ q : Nat, s.heap.size ≤ q → A q := fun q h => by rw [hAe]; exact h
  have hS : va_S A s.heap s.heap [] := va_S.rf
  subst hAe
  have hl := lv_entry ([.ref a0, .int (nI k), .int came, .int against]) (n := 4) (Nat.le_of_ble_eq_true rfl)
  rw [lg_entry_eq]
  generalize (lg_sl ([.ref a0, .int (nI k), .int came, .int against]) ++ List.replicate (4 - (lg_sl ([.ref a0, .int (nI k), .int came, .int against])).length) Slot.unset).toArray = ls at hl ⊢
  replace hl : lv_has ls 4 [(0, .ref a0), (1, .int (nI k)), (2, .int came), (3, .int against)] := hl
  have hKe := hK.sub (tys' := []) [] rfl
  refine lv_aload_n hx hb dX0_bodyHolds_0 rfl (lv_at hl 0 rfl) ?_
  refine va_get (D := D) (ci := 0) (v := .ref a2) (C := RX0) (T := TX0) (N := 5) hx hb hts hinX0 hown hK hP 0 rfl rfl 3 (by decide) (hts (.fieldLink RX0 15 "HoldUnless$RuleBook" "ifs" "[I") (by decide +kernel)) (fun _ h9 => h9) rfl dX0_bodyHolds_1 ?_
  refine lv_iload_n hx hb dX0_bodyHolds_4 rfl (lv_at hl 1 rfl) ?_
  refine wa_ild hx hb hK hP 2 1 rfl rfl k rfl (by omega) (by decide) dX0_bodyHolds_5 ?_
  refine lv_iload_n hx hb dX0_bodyHolds_6 rfl (lv_at hl 2 rfl) ?_
  refine lv_iconst (v := (-1)) hx hb dX0_bodyHolds_7 (by decide) ?_
  refine lv_ixor hx hb dX0_bodyHolds_8 ?_
  refine lv_iand hx hb dX0_bodyHolds_9 ?_
  refine lv_if_ne (tgt := 28) hx hb dX0_bodyHolds_10 (by decide) (fun c_10_1 => ?_) (fun c_10_1 => ?_)
  · refine lv_iconst (v := 0) hx hb dX0_bodyHolds_28 (by decide) ?_
    exact ro_zret hx hb hr hS hlocks (show s_X0_bodyHolds fi un k came against = 0 from by (unfold s_X0_bodyHolds; (try dsimp only); (try rw [if_neg c_10_1]); first | done | rfl)).symm (by decide +kernel) dX0_bodyHolds_29
  · refine lv_aload_n hx hb dX0_bodyHolds_13 rfl (lv_at hl 0 rfl) ?_
    refine va_get (D := D) (ci := 0) (v := .ref a3) (C := RX0) (T := TX0) (N := 5) hx hb hts hinX0 hown hK hP 0 rfl rfl 4 (by decide) (hts (.fieldLink RX0 18 "HoldUnless$RuleBook" "unless" "[I") (by decide +kernel)) (fun _ h9 => h9) rfl dX0_bodyHolds_14 ?_
    refine lv_iload_n hx hb dX0_bodyHolds_17 rfl (lv_at hl 1 rfl) ?_
    refine wa_ild hx hb hK hP 3 2 rfl rfl k rfl (by omega) (by decide) dX0_bodyHolds_18 ?_
    refine lv_iload_n hx hb dX0_bodyHolds_19 rfl (lv_at hl 3 rfl) ?_
    refine lv_iand hx hb dX0_bodyHolds_20 ?_
    refine lv_if_ne (tgt := 28) hx hb dX0_bodyHolds_21 (by decide) (fun c_21_2 => ?_) (fun c_21_2 => ?_)
    · refine lv_iconst (v := 0) hx hb dX0_bodyHolds_28 (by decide) ?_
      exact ro_zret hx hb hr hS hlocks (show s_X0_bodyHolds fi un k came against = 0 from by (unfold s_X0_bodyHolds; (try dsimp only); (try rw [if_pos c_10_1]); (try rw [if_neg c_21_2]); first | done | rfl)).symm (by decide +kernel) dX0_bodyHolds_29
    · refine lv_iconst (v := 1) hx hb dX0_bodyHolds_24 (by decide) ?_
      refine lv_goto (tgt := 29) hx hb dX0_bodyHolds_25 (by decide) ?_
      exact ro_zret hx hb hr hS hlocks (show s_X0_bodyHolds fi un k came against = 1 from by (unfold s_X0_bodyHolds; (try dsimp only); (try rw [if_pos c_10_1]); (try rw [if_pos c_21_2]); first | done | rfl)).symm (by decide +kernel) dX0_bodyHolds_29

def f_X0_nextRound_6 (hd : Nat → Int32) (fi : Nat → Int32) (un : Nat → Int32) (came : Int32) (on : Int32) (against : Int32) (j6 : Nat) (st : Int32) : Int32 := match st with | next => (if (s_X2_bitOf on (nI j6)) = 1 then (if (hd j6) = 8 then next else (if (s_X0_bodyHolds fi un j6 came against) = 0 then next else (next ||| (1 <<< ((hd j6) &&& 31))))) else next)
def s_X0_nextRound (n : Nat) (hd : Nat → Int32) (fi : Nat → Int32) (un : Nat → Int32) (came : Int32) (on : Int32) (against : Int32) : Int32 := (match itr (f_X0_nextRound_6 hd fi un came on against) came n with | next => next)
set_option maxHeartbeats 4000000 in
set_option maxRecDepth 100000 in
theorem c_X0_nextRound (l : Launch) (D : va_G) (a0 : Nat) (a1 : Nat) (a2 : Nat) (a3 : Nat) (b1 : ClassId) (b2 : ClassId) (b3 : ClassId) (n : Nat) (may : Int32) (hd : Nat → Int32) (fi : Nat → Int32) (un : Nat → Int32) (came : Int32) (on : Int32) (against : Int32) (hn : n ≤ 10) (sz : Nat) : Met l yX0_nextRound wsX0_nextRound ({ frames := 1, cells := 0, slots := 0, locals := 23 }) (va_Pc [.ref a0, .int came, .int on, .int against] (cPre D (tB a0 a1 a2 a3 b1 b2 b3) (wB a0 a1 a2 a3 b1 b2 b3 (nI n) may hd fi un) sz)) (va_Qi (fun r (_ : Unit) => r = s_X0_nextRound n hd fi un came on against) (fun _ _ => True) (fun q => sz ≤ q)) 0 0 (fun q => sz ≤ q) := by
  refine Met.ofW (cc := cX0_nextRound) (maxL := 6) (ret := (some .int)) (by decide) rfl ?_
  intro p e s m args below meth c s₁ B hml hv
  obtain ⟨rfl, hsz, hP, hK, hD, hN⟩ := hv
  have hx := B.exec
  have hb := B.bytes
  have hr := B.returns
  have hts := atoms_spec (ws := wsX0_nextRound) B.pre
  have hown : s.vm.findClass RX0 = some m.cls := findClass_of_methodNamed B.named
  have hlocks := B.notSynchronized
  have hinX0 : ∀ w ∈ wsX00, w ∈ wsX0_nextRound := fun w h => List.mem_cons_of_mem _ (List.mem_append_right _ h)
  subst hsz
  obtain ⟨A, hAe⟩ : ∃ A : Nat → Prop, A = (fun q : Nat => s.heap.size ≤ q) := ⟨_, rfl⟩
  have hA : ∀ q : Nat, s.heap.size ≤ q → A q := fun q h => by rw [hAe]; exact h
  have hS : va_S A s.heap s.heap [] := va_S.rf
  subst hAe
  have hl := lv_entry ([.ref a0, .int came, .int on, .int against]) (n := 6) (Nat.le_of_ble_eq_true rfl)
  rw [lg_entry_eq]
  generalize (lg_sl ([.ref a0, .int came, .int on, .int against]) ++ List.replicate (6 - (lg_sl ([.ref a0, .int came, .int on, .int against])).length) Slot.unset).toArray = ls at hl ⊢
  replace hl : lv_has ls 6 [(0, .ref a0), (1, .int came), (2, .int on), (3, .int against)] := hl
  have hKe := hK.sub (tys' := []) [] rfl
  refine lv_iload_n hx hb dX0_nextRound_0 rfl (lv_at hl 1 rfl) ?_
  refine lv_istore (lv' := [(4, .int came), (0, .ref a0), (1, .int came), (2, .int on), (3, .int against)]) hx hb dX0_nextRound_1 hl (by decide) rfl (fun ls hl => ?_)
  refine lv_iconst (v := 0) hx hb dX0_nextRound_3 (by decide) ?_
  refine lv_istore (lv' := [(5, .int 0), (4, .int came), (0, .ref a0), (1, .int came), (2, .int on), (3, .int against)]) hx hb dX0_nextRound_4 hl (by decide) rfl (fun ls hl => ?_)
  have lp6_1 : ∀ (z_1 j6 : Nat), j6 + z_1 = n → ∀ (next : Int32), next = itr (f_X0_nextRound_6 hd fi un came on against) came j6 → ∀  (H : Heap) (locs : List Loc), va_P D vwCl (wB a0 a1 a2 a3 b1 b2 b3 (nI n) may hd fi un) H → va_S (fun q : Nat => s.heap.size ≤ q) s.heap H locs → ∀ ls : Array Slot, lv_has ls 6 [(0, .ref a0), (1, .int came), (2, .int on), (3, .int against), (4, .int next), (5, .int (nI j6))] → W p l e (headSpec wsX0_nextRound ({ frames := 1, cells := 0, slots := 0, locals := 23 })).room s m ([.ref a0, .int came, .int on, .int against] : List Value).toArray below meth c H locs 0 0 (MQ below (va_Qi (fun r (_ : Unit) => r = s_X0_nextRound n hd fi un came on against) (fun _ _ => True) (fun q => s.heap.size ≤ q)) ([.ref a0, .int came, .int on, .int against] : List Value).toArray s 0 0 (fun q => s.heap.size ≤ q)) (F0 m 6 ls []) := by
    intro z_1
    induction z_1 with
    | zero =>
      intro j6 hj6 next he6   H locs hP hS ls hl
      obtain rfl : n = j6 := by omega
      refine lv_iload hx hb dX0_nextRound_6 (lv_at hl 5 rfl) ?_
      refine lv_aload_n hx hb dX0_nextRound_8 rfl (lv_at hl 0 rfl) ?_
      refine va_get (D := D) (ci := 0) (v := .int (nI n)) (C := RX0) (T := TX0) (N := 5) hx hb hts hinX0 hown hK hP 0 rfl rfl 0 (by decide) (hts (.fieldLink RX0 21 "HoldUnless$RuleBook" "size" "I") (by decide +kernel)) (fun _ h9 => h9) rfl dX0_nextRound_9 ?_
      refine lv_icmp_ge (tgt := 68) hx hb dX0_nextRound_12 (by decide) (fun _ => ?_) (fun hh_3 => absurd (nI_le (a := n) (b := n) (by omega) (by omega)) hh_3)
      refine lv_iload hx hb dX0_nextRound_68 (lv_at hl 4 rfl) ?_
      exact ro_iret hx hb hr hS hlocks (show s_X0_nextRound n hd fi un came on against = next from by (unfold s_X0_nextRound; (try dsimp only); (try rw [← he6]); (try dsimp only); first | done | rfl)).symm dX0_nextRound_70
    | succ z_1 ih6 =>
      intro j6 hj6 next he6   H locs hP hS ls hl
      refine lv_iload hx hb dX0_nextRound_6 (lv_at hl 5 rfl) ?_
      refine lv_aload_n hx hb dX0_nextRound_8 rfl (lv_at hl 0 rfl) ?_
      refine va_get (D := D) (ci := 0) (v := .int (nI n)) (C := RX0) (T := TX0) (N := 5) hx hb hts hinX0 hown hK hP 0 rfl rfl 0 (by decide) (hts (.fieldLink RX0 21 "HoldUnless$RuleBook" "size" "I") (by decide +kernel)) (fun _ h9 => h9) rfl dX0_nextRound_9 ?_
      refine lv_icmp_ge (tgt := 68) hx hb dX0_nextRound_12 (by decide) (fun hh_5 => absurd hh_5 (nI_ge (a := j6) (b := n) (by omega) (by omega))) (fun _ => ?_)
      refine lv_iload_n hx hb dX0_nextRound_15 rfl (lv_at hl 2 rfl) ?_
      refine lv_iload hx hb dX0_nextRound_16 (lv_at hl 5 rfl) ?_
      refine ro_i (D := D) (va_runSN (As := [.int on, .int (nI j6)]) (rest := []) ⟨hx, hb, hml, hown, hts⟩ (c_X2_bitOf l D on (nI j6)  _) ⟨(va_cnB 2 hts gX0_nextRound_X2_bitOf_n32 rfl rfl rfl (hN.nw 9 rfl) (hts (.initialized RX2) (by decide +kernel)) (by decide +kernel) ⟨Nat.le_of_ble_eq_true rfl, Nat.le_of_ble_eq_true rfl⟩), hts (.static yX2_bitOf) (by decide +kernel), trivial⟩ ⟨cPre.blind, cPre.mk vP0 hKe vD0 hN⟩ rfl rfl hl.1 rfl (lv_room (Nat.le_of_ble_eq_true rfl)) dX0_nextRound_18 ⟨Nat.zero_le _, Nat.zero_le _⟩) hS hA (fun H locs hkp0 hS => ?_)
      replace hP := hkp0 _ hP
      refine lv_iconst (v := 1) hx hb dX0_nextRound_21 (by decide) ?_
      refine lv_icmp_ne (tgt := 62) hx hb dX0_nextRound_22 (by decide) (fun c_22_6 => ?_) (fun c_22_6 => ?_)
      · refine lv_iinc (v := nI (j6 + 1)) (lv' := [(5, .int (nI (j6 + 1))), (0, .ref a0), (1, .int came), (2, .int on), (3, .int against), (4, .int next)]) hx hb dX0_nextRound_62 hl (k := 5) rfl (inc_nI j6) (by decide) rfl (fun ls hl => ?_)
        refine lv_goto (tgt := 6) hx hb dX0_nextRound_65 (by decide) ?_
        exact ih6 (j6 + 1) (by omega) next (itr_step he6 (by (unfold f_X0_nextRound_6; (try dsimp only); (try rw [if_neg c_22_6]); first | done | rfl)))   _ _ hP hS _ (lv_sub hl [1, 2, 3, 4, 5, 0] rfl)
      · refine lv_aload_n hx hb dX0_nextRound_25 rfl (lv_at hl 0 rfl) ?_
        refine va_get (D := D) (ci := 0) (v := .ref a1) (C := RX0) (T := TX0) (N := 5) hx hb hts hinX0 hown hK hP 0 rfl rfl 2 (by decide) (hts (.fieldLink RX0 9 "HoldUnless$RuleBook" "head" "[I") (by decide +kernel)) (fun _ h9 => h9) rfl dX0_nextRound_26 ?_
        refine lv_iload hx hb dX0_nextRound_29 (lv_at hl 5 rfl) ?_
        refine wa_ild hx hb hK hP 1 0 rfl rfl j6 rfl (by omega) (by decide) dX0_nextRound_31 ?_
        refine lv_bipush (v := 8) hx hb dX0_nextRound_32 (by decide) ?_
        refine lv_icmp_eq (tgt := 62) hx hb dX0_nextRound_34 (by decide) (fun c_34_7 => ?_) (fun c_34_7 => ?_)
        · refine lv_iinc (v := nI (j6 + 1)) (lv' := [(5, .int (nI (j6 + 1))), (0, .ref a0), (1, .int came), (2, .int on), (3, .int against), (4, .int next)]) hx hb dX0_nextRound_62 hl (k := 5) rfl (inc_nI j6) (by decide) rfl (fun ls hl => ?_)
          refine lv_goto (tgt := 6) hx hb dX0_nextRound_65 (by decide) ?_
          exact ih6 (j6 + 1) (by omega) next (itr_step he6 (by (unfold f_X0_nextRound_6; (try dsimp only); (try rw [if_pos c_22_6]); (try rw [if_pos c_34_7]); first | done | rfl)))   _ _ hP hS _ (lv_sub hl [1, 2, 3, 4, 5, 0] rfl)
        · refine lv_aload_n hx hb dX0_nextRound_37 rfl (lv_at hl 0 rfl) ?_
          refine lv_iload hx hb dX0_nextRound_38 (lv_at hl 5 rfl) ?_
          refine lv_iload_n hx hb dX0_nextRound_40 rfl (lv_at hl 1 rfl) ?_
          refine lv_iload_n hx hb dX0_nextRound_41 rfl (lv_at hl 3 rfl) ?_
          refine ro_i (D := D) (va_runV (As := [.int (nI j6), .int came, .int against]) (rest := []) ⟨hx, hb, hml, hown, hts⟩ (c_X0_bodyHolds l D a0 a1 a2 a3 b1 b2 b3 n may hd fi un j6 came against (by first | assumption | omega) _) (cwV 3 hts gX0_nextRound_X0_bodyHolds rfl rfl rfl (by decide +kernel) ⟨Nat.le_of_ble_eq_true rfl, Nat.le_of_ble_eq_true rfl⟩) ⟨cPre.blind, va_recv hK hP (ci := 0) (q0 := 0) rfl rfl, cPre.mk hP hK hD hN⟩ rfl rfl hl.1 rfl (lv_room (Nat.le_of_ble_eq_true rfl)) dX0_nextRound_42 ⟨Nat.zero_le _, Nat.zero_le _⟩) hS hA (fun H locs hkp0 hS => ?_)
          replace hP := hkp0 _ hP
          refine lv_if_eq (tgt := 62) hx hb dX0_nextRound_45 (by decide) (fun c_45_8 => ?_) (fun c_45_8 => ?_)
          · refine lv_iinc (v := nI (j6 + 1)) (lv' := [(5, .int (nI (j6 + 1))), (0, .ref a0), (1, .int came), (2, .int on), (3, .int against), (4, .int next)]) hx hb dX0_nextRound_62 hl (k := 5) rfl (inc_nI j6) (by decide) rfl (fun ls hl => ?_)
            refine lv_goto (tgt := 6) hx hb dX0_nextRound_65 (by decide) ?_
            exact ih6 (j6 + 1) (by omega) next (itr_step he6 (by (unfold f_X0_nextRound_6; (try dsimp only); (try rw [if_pos c_22_6]); (try rw [if_neg c_34_7]); (try rw [if_pos c_45_8]); first | done | rfl)))   _ _ hP hS _ (lv_sub hl [1, 2, 3, 4, 5, 0] rfl)
          · refine lv_iload hx hb dX0_nextRound_48 (lv_at hl 4 rfl) ?_
            refine lv_iconst (v := 1) hx hb dX0_nextRound_50 (by decide) ?_
            refine lv_aload_n hx hb dX0_nextRound_51 rfl (lv_at hl 0 rfl) ?_
            refine va_get (D := D) (ci := 0) (v := .ref a1) (C := RX0) (T := TX0) (N := 5) hx hb hts hinX0 hown hK hP 0 rfl rfl 2 (by decide) (hts (.fieldLink RX0 9 "HoldUnless$RuleBook" "head" "[I") (by decide +kernel)) (fun _ h9 => h9) rfl dX0_nextRound_52 ?_
            refine lv_iload hx hb dX0_nextRound_55 (lv_at hl 5 rfl) ?_
            refine wa_ild hx hb hK hP 1 0 rfl rfl j6 rfl (by omega) (by decide) dX0_nextRound_57 ?_
            refine lv_ishl hx hb dX0_nextRound_58 ?_
            refine lv_ior hx hb dX0_nextRound_59 ?_
            refine lv_istore (lv' := [(4, .int (next ||| (1 <<< ((hd j6) &&& 31)))), (0, .ref a0), (1, .int came), (2, .int on), (3, .int against), (5, .int (nI j6))]) hx hb dX0_nextRound_60 hl (by decide) rfl (fun ls hl => ?_)
            refine lv_iinc (v := nI (j6 + 1)) (lv' := [(5, .int (nI (j6 + 1))), (4, .int (next ||| (1 <<< ((hd j6) &&& 31)))), (0, .ref a0), (1, .int came), (2, .int on), (3, .int against)]) hx hb dX0_nextRound_62 hl (k := 5) rfl (inc_nI j6) (by decide) rfl (fun ls hl => ?_)
            refine lv_goto (tgt := 6) hx hb dX0_nextRound_65 (by decide) ?_
            exact ih6 (j6 + 1) (by omega) (next ||| (1 <<< ((hd j6) &&& 31))) (itr_step he6 (by (unfold f_X0_nextRound_6; (try dsimp only); (try rw [if_pos c_22_6]); (try rw [if_neg c_34_7]); (try rw [if_neg c_45_8]); first | done | rfl)))   _ _ hP hS _ (lv_sub hl [2, 3, 4, 5, 1, 0] rfl)
  exact lp6_1 n 0 (by omega) came (itr_zero _ _).symm   _ _ hP hS _ (lv_sub hl [2, 3, 4, 5, 1, 0] rfl)

def f_X0_comesOf_6 (n : Nat) (hd : Nat → Int32) (fi : Nat → Int32) (un : Nat → Int32) (on : Int32) (against : Int32) (j6 : Nat) (st : Int32) : Int32 ⊕ (Int32) := match st with | came => (if (s_X0_nextRound n hd fi un came on against) = came then (.inl came) else (.inr (s_X0_nextRound n hd fi un came on against)))
def s_X0_comesOf (n : Nat) (hd : Nat → Int32) (fi : Nat → Int32) (un : Nat → Int32) (start : Int32) (on : Int32) (against : Int32) : Int32 := (onE (itE (f_X0_comesOf_6 n hd fi un on against) start 8) (fun st => match st with | came => came))
set_option maxHeartbeats 4000000 in
set_option maxRecDepth 100000 in
theorem c_X0_comesOf (l : Launch) (D : va_G) (a0 : Nat) (a1 : Nat) (a2 : Nat) (a3 : Nat) (b1 : ClassId) (b2 : ClassId) (b3 : ClassId) (n : Nat) (may : Int32) (hd : Nat → Int32) (fi : Nat → Int32) (un : Nat → Int32) (start : Int32) (on : Int32) (against : Int32) (hn : n ≤ 10) (sz : Nat) : Met l yX0_comesOf wsX0_comesOf ({ frames := 2, cells := 0, slots := 0, locals := 48 }) (va_Pc [.ref a0, .int start, .int on, .int against] (cPre D (tB a0 a1 a2 a3 b1 b2 b3) (wB a0 a1 a2 a3 b1 b2 b3 (nI n) may hd fi un) sz)) (va_Qi (fun r (_ : Unit) => r = s_X0_comesOf n hd fi un start on against) (fun _ _ => True) (fun q => sz ≤ q)) 0 0 (fun q => sz ≤ q) := by
  refine Met.ofW (cc := cX0_comesOf) (maxL := 7) (ret := (some .int)) (by decide) rfl ?_
  intro p e s m args below meth c s₁ B hml hv
  obtain ⟨rfl, hsz, hP, hK, hD, hN⟩ := hv
  have hx := B.exec
  have hb := B.bytes
  have hr := B.returns
  have hts := atoms_spec (ws := wsX0_comesOf) B.pre
  have hown : s.vm.findClass RX0 = some m.cls := findClass_of_methodNamed B.named
  have hlocks := B.notSynchronized
  subst hsz
  obtain ⟨A, hAe⟩ : ∃ A : Nat → Prop, A = (fun q : Nat => s.heap.size ≤ q) := ⟨_, rfl⟩
  have hA : ∀ q : Nat, s.heap.size ≤ q → A q := fun q h => by rw [hAe]; exact h
  have hS : va_S A s.heap s.heap [] := va_S.rf
  subst hAe
  have hl := lv_entry ([.ref a0, .int start, .int on, .int against]) (n := 7) (Nat.le_of_ble_eq_true rfl)
  rw [lg_entry_eq]
  generalize (lg_sl ([.ref a0, .int start, .int on, .int against]) ++ List.replicate (7 - (lg_sl ([.ref a0, .int start, .int on, .int against])).length) Slot.unset).toArray = ls at hl ⊢
  replace hl : lv_has ls 7 [(0, .ref a0), (1, .int start), (2, .int on), (3, .int against)] := hl
  have hKe := hK.sub (tys' := []) [] rfl
  refine lv_iload_n hx hb dX0_comesOf_0 rfl (lv_at hl 1 rfl) ?_
  refine lv_istore (lv' := [(4, .int start), (0, .ref a0), (1, .int start), (2, .int on), (3, .int against)]) hx hb dX0_comesOf_1 hl (by decide) rfl (fun ls hl => ?_)
  refine lv_iconst (v := 0) hx hb dX0_comesOf_3 (by decide) ?_
  refine lv_istore (lv' := [(5, .int 0), (4, .int start), (0, .ref a0), (1, .int start), (2, .int on), (3, .int against)]) hx hb dX0_comesOf_4 hl (by decide) rfl (fun ls hl => ?_)
  have lp6_1 : ∀ (z_1 j6 : Nat), j6 + z_1 = 8 → ∀ (came : Int32), itE (f_X0_comesOf_6 n hd fi un on against) start j6 = .inr came → ∀  (H : Heap) (locs : List Loc), va_P D vwCl (wB a0 a1 a2 a3 b1 b2 b3 (nI n) may hd fi un) H → va_S (fun q : Nat => s.heap.size ≤ q) s.heap H locs → ∀ ls : Array Slot, lv_has ls 7 [(0, .ref a0), (1, .int start), (2, .int on), (3, .int against), (4, .int came), (5, .int (nI j6))] → W p l e (headSpec wsX0_comesOf ({ frames := 2, cells := 0, slots := 0, locals := 48 })).room s m ([.ref a0, .int start, .int on, .int against] : List Value).toArray below meth c H locs 0 0 (MQ below (va_Qi (fun r (_ : Unit) => r = s_X0_comesOf n hd fi un start on against) (fun _ _ => True) (fun q => s.heap.size ≤ q)) ([.ref a0, .int start, .int on, .int against] : List Value).toArray s 0 0 (fun q => s.heap.size ≤ q)) (F0 m 6 ls []) := by
    intro z_1
    induction z_1 with
    | zero =>
      intro j6 hj6 came he6   H locs hP hS ls hl
      obtain rfl : 8 = j6 := by omega
      refine lv_iload hx hb dX0_comesOf_6 (lv_at hl 5 rfl) ?_
      refine lv_bipush (v := 8) hx hb dX0_comesOf_8 (by decide) ?_
      refine lv_icmp_ge (tgt := 43) hx hb dX0_comesOf_10 (by decide) (fun _ => ?_) (fun hh_3 => absurd (nI_le (a := 8) (b := 8) (by omega) (by omega)) hh_3)
      refine lv_iload hx hb dX0_comesOf_43 (lv_at hl 4 rfl) ?_
      exact ro_iret hx hb hr hS hlocks (show s_X0_comesOf n hd fi un start on against = came from by (unfold s_X0_comesOf; (try dsimp only); (try rw [he6]); (try dsimp only [onE]); first | done | rfl)).symm dX0_comesOf_45
    | succ z_1 ih6 =>
      intro j6 hj6 came he6   H locs hP hS ls hl
      refine lv_iload hx hb dX0_comesOf_6 (lv_at hl 5 rfl) ?_
      refine lv_bipush (v := 8) hx hb dX0_comesOf_8 (by decide) ?_
      refine lv_icmp_ge (tgt := 43) hx hb dX0_comesOf_10 (by decide) (fun hh_5 => absurd hh_5 (nI_ge (a := j6) (b := 8) (by omega) (by omega))) (fun _ => ?_)
      refine lv_aload_n hx hb dX0_comesOf_13 rfl (lv_at hl 0 rfl) ?_
      refine lv_iload hx hb dX0_comesOf_14 (lv_at hl 4 rfl) ?_
      refine lv_iload_n hx hb dX0_comesOf_16 rfl (lv_at hl 2 rfl) ?_
      refine lv_iload_n hx hb dX0_comesOf_17 rfl (lv_at hl 3 rfl) ?_
      refine ro_i (D := D) (va_runV (As := [.int came, .int on, .int against]) (rest := []) ⟨hx, hb, hml, hown, hts⟩ (c_X0_nextRound l D a0 a1 a2 a3 b1 b2 b3 n may hd fi un came on against (by first | assumption | omega) _) (cwV 3 hts gX0_comesOf_X0_nextRound rfl rfl rfl (by decide +kernel) ⟨Nat.le_of_ble_eq_true rfl, Nat.le_of_ble_eq_true rfl⟩) ⟨cPre.blind, va_recv hK hP (ci := 0) (q0 := 0) rfl rfl, cPre.mk hP hK hD hN⟩ rfl rfl hl.1 rfl (lv_room (Nat.le_of_ble_eq_true rfl)) dX0_comesOf_18 ⟨Nat.zero_le _, Nat.zero_le _⟩) hS hA (fun H locs hkp0 hS => ?_)
      replace hP := hkp0 _ hP
      refine lv_istore (lv' := [(6, .int (s_X0_nextRound n hd fi un came on against)), (0, .ref a0), (1, .int start), (2, .int on), (3, .int against), (4, .int came), (5, .int (nI j6))]) hx hb dX0_comesOf_21 hl (by decide) rfl (fun ls hl => ?_)
      refine lv_iload hx hb dX0_comesOf_23 (lv_at hl 0 rfl) ?_
      refine lv_iload hx hb dX0_comesOf_25 (lv_at hl 5 rfl) ?_
      refine lv_icmp_ne (tgt := 33) hx hb dX0_comesOf_27 (by decide) (fun c_27_6 => ?_) (fun c_27_6 => ?_)
      · refine lv_iload hx hb dX0_comesOf_33 (lv_at hl 0 rfl) ?_
        refine lv_istore (lv' := [(4, .int (s_X0_nextRound n hd fi un came on against)), (6, .int (s_X0_nextRound n hd fi un came on against)), (0, .ref a0), (1, .int start), (2, .int on), (3, .int against), (5, .int (nI j6))]) hx hb dX0_comesOf_35 hl (by decide) rfl (fun ls hl => ?_)
        refine lv_iinc (v := nI (j6 + 1)) (lv' := [(5, .int (nI (j6 + 1))), (4, .int (s_X0_nextRound n hd fi un came on against)), (6, .int (s_X0_nextRound n hd fi un came on against)), (0, .ref a0), (1, .int start), (2, .int on), (3, .int against)]) hx hb dX0_comesOf_37 hl (k := 6) rfl (inc_nI j6) (by decide) rfl (fun ls hl => ?_)
        refine lv_goto (tgt := 6) hx hb dX0_comesOf_40 (by decide) ?_
        exact ih6 (j6 + 1) (by omega) (s_X0_nextRound n hd fi un came on against) (itE_succ he6 (by (unfold f_X0_comesOf_6; (try dsimp only); (try rw [if_neg c_27_6]); first | done | rfl)))   _ _ hP hS _ (lv_sub hl [3, 4, 5, 6, 1, 0] rfl)
      · refine lv_goto (tgt := 43) hx hb dX0_comesOf_30 (by decide) ?_
        refine lv_iload hx hb dX0_comesOf_43 (lv_at hl 5 rfl) ?_
        have hs_7 : itE (f_X0_comesOf_6 n hd fi un on against) start (j6 + 1) = (.inl came) := itE_succ he6 (by (unfold f_X0_comesOf_6; (try dsimp only); (try rw [if_pos c_27_6]); first | done | rfl))
        have hn_8 := itE_stop hs_7 8 (by omega)
        exact ro_iret hx hb hr hS hlocks (show s_X0_comesOf n hd fi un start on against = came from by (unfold s_X0_comesOf; (try dsimp only); (try rw [hn_8]); (try dsimp only [onE]); first | done | rfl)).symm dX0_comesOf_45
  exact lp6_1 8 0 (by omega) start (itE_zero _ _)   _ _ hP hS _ (lv_sub hl [2, 3, 4, 5, 1, 0] rfl)

def f_X0_brokenBy_5 (hd : Nat → Int32) (fi : Nat → Int32) (un : Nat → Int32) (set : Int32) (on : Int32) (j5 : Nat) (st : Int32) : Int32 := match st with | broken => (if (s_X2_bitOf on (nI j5)) = 1 then (if (s_X2_bitOf set (hd j5)) = 0 then (if (s_X0_bodyHolds fi un j5 set set) = 0 then broken else (broken ||| (1 <<< ((nI j5) &&& 31)))) else broken) else broken)
def s_X0_brokenBy (n : Nat) (hd : Nat → Int32) (fi : Nat → Int32) (un : Nat → Int32) (set : Int32) (on : Int32) : Int32 := (match itr (f_X0_brokenBy_5 hd fi un set on) 0 n with | broken => broken)
set_option maxHeartbeats 4000000 in
set_option maxRecDepth 100000 in
theorem c_X0_brokenBy (l : Launch) (D : va_G) (a0 : Nat) (a1 : Nat) (a2 : Nat) (a3 : Nat) (b1 : ClassId) (b2 : ClassId) (b3 : ClassId) (n : Nat) (may : Int32) (hd : Nat → Int32) (fi : Nat → Int32) (un : Nat → Int32) (set : Int32) (on : Int32) (hn : n ≤ 10) (sz : Nat) : Met l yX0_brokenBy wsX0_brokenBy ({ frames := 1, cells := 0, slots := 0, locals := 23 }) (va_Pc [.ref a0, .int set, .int on] (cPre D (tB a0 a1 a2 a3 b1 b2 b3) (wB a0 a1 a2 a3 b1 b2 b3 (nI n) may hd fi un) sz)) (va_Qi (fun r (_ : Unit) => r = s_X0_brokenBy n hd fi un set on) (fun _ _ => True) (fun q => sz ≤ q)) 0 0 (fun q => sz ≤ q) := by
  refine Met.ofW (cc := cX0_brokenBy) (maxL := 5) (ret := (some .int)) (by decide) rfl ?_
  intro p e s m args below meth c s₁ B hml hv
  obtain ⟨rfl, hsz, hP, hK, hD, hN⟩ := hv
  have hx := B.exec
  have hb := B.bytes
  have hr := B.returns
  have hts := atoms_spec (ws := wsX0_brokenBy) B.pre
  have hown : s.vm.findClass RX0 = some m.cls := findClass_of_methodNamed B.named
  have hlocks := B.notSynchronized
  have hinX0 : ∀ w ∈ wsX00, w ∈ wsX0_brokenBy := fun w h => List.mem_cons_of_mem _ (List.mem_append_right _ h)
  subst hsz
  obtain ⟨A, hAe⟩ : ∃ A : Nat → Prop, A = (fun q : Nat => s.heap.size ≤ q) := ⟨_, rfl⟩
  have hA : ∀ q : Nat, s.heap.size ≤ q → A q := fun q h => by rw [hAe]; exact h
  have hS : va_S A s.heap s.heap [] := va_S.rf
  subst hAe
  have hl := lv_entry ([.ref a0, .int set, .int on]) (n := 5) (Nat.le_of_ble_eq_true rfl)
  rw [lg_entry_eq]
  generalize (lg_sl ([.ref a0, .int set, .int on]) ++ List.replicate (5 - (lg_sl ([.ref a0, .int set, .int on])).length) Slot.unset).toArray = ls at hl ⊢
  replace hl : lv_has ls 5 [(0, .ref a0), (1, .int set), (2, .int on)] := hl
  have hKe := hK.sub (tys' := []) [] rfl
  refine lv_iconst (v := 0) hx hb dX0_brokenBy_0 (by decide) ?_
  refine lv_istore_n (lv' := [(3, .int 0), (0, .ref a0), (1, .int set), (2, .int on)]) hx hb dX0_brokenBy_1 rfl hl (by decide) rfl (fun ls hl => ?_)
  refine lv_iconst (v := 0) hx hb dX0_brokenBy_2 (by decide) ?_
  refine lv_istore (lv' := [(4, .int 0), (3, .int 0), (0, .ref a0), (1, .int set), (2, .int on)]) hx hb dX0_brokenBy_3 hl (by decide) rfl (fun ls hl => ?_)
  have lp5_1 : ∀ (z_1 j5 : Nat), j5 + z_1 = n → ∀ (broken : Int32), broken = itr (f_X0_brokenBy_5 hd fi un set on) 0 j5 → ∀  (H : Heap) (locs : List Loc), va_P D vwCl (wB a0 a1 a2 a3 b1 b2 b3 (nI n) may hd fi un) H → va_S (fun q : Nat => s.heap.size ≤ q) s.heap H locs → ∀ ls : Array Slot, lv_has ls 5 [(0, .ref a0), (1, .int set), (2, .int on), (3, .int broken), (4, .int (nI j5))] → W p l e (headSpec wsX0_brokenBy ({ frames := 1, cells := 0, slots := 0, locals := 23 })).room s m ([.ref a0, .int set, .int on] : List Value).toArray below meth c H locs 0 0 (MQ below (va_Qi (fun r (_ : Unit) => r = s_X0_brokenBy n hd fi un set on) (fun _ _ => True) (fun q => s.heap.size ≤ q)) ([.ref a0, .int set, .int on] : List Value).toArray s 0 0 (fun q => s.heap.size ≤ q)) (F0 m 5 ls []) := by
    intro z_1
    induction z_1 with
    | zero =>
      intro j5 hj5 broken he5   H locs hP hS ls hl
      obtain rfl : n = j5 := by omega
      refine lv_iload hx hb dX0_brokenBy_5 (lv_at hl 4 rfl) ?_
      refine lv_aload_n hx hb dX0_brokenBy_7 rfl (lv_at hl 0 rfl) ?_
      refine va_get (D := D) (ci := 0) (v := .int (nI n)) (C := RX0) (T := TX0) (N := 5) hx hb hts hinX0 hown hK hP 0 rfl rfl 0 (by decide) (hts (.fieldLink RX0 21 "HoldUnless$RuleBook" "size" "I") (by decide +kernel)) (fun _ h9 => h9) rfl dX0_brokenBy_8 ?_
      refine lv_icmp_ge (tgt := 62) hx hb dX0_brokenBy_11 (by decide) (fun _ => ?_) (fun hh_3 => absurd (nI_le (a := n) (b := n) (by omega) (by omega)) hh_3)
      refine lv_iload_n hx hb dX0_brokenBy_62 rfl (lv_at hl 3 rfl) ?_
      exact ro_iret hx hb hr hS hlocks (show s_X0_brokenBy n hd fi un set on = broken from by (unfold s_X0_brokenBy; (try dsimp only); (try rw [← he5]); (try dsimp only); first | done | rfl)).symm dX0_brokenBy_63
    | succ z_1 ih5 =>
      intro j5 hj5 broken he5   H locs hP hS ls hl
      refine lv_iload hx hb dX0_brokenBy_5 (lv_at hl 4 rfl) ?_
      refine lv_aload_n hx hb dX0_brokenBy_7 rfl (lv_at hl 0 rfl) ?_
      refine va_get (D := D) (ci := 0) (v := .int (nI n)) (C := RX0) (T := TX0) (N := 5) hx hb hts hinX0 hown hK hP 0 rfl rfl 0 (by decide) (hts (.fieldLink RX0 21 "HoldUnless$RuleBook" "size" "I") (by decide +kernel)) (fun _ h9 => h9) rfl dX0_brokenBy_8 ?_
      refine lv_icmp_ge (tgt := 62) hx hb dX0_brokenBy_11 (by decide) (fun hh_5 => absurd hh_5 (nI_ge (a := j5) (b := n) (by omega) (by omega))) (fun _ => ?_)
      refine lv_iload_n hx hb dX0_brokenBy_14 rfl (lv_at hl 2 rfl) ?_
      refine lv_iload hx hb dX0_brokenBy_15 (lv_at hl 4 rfl) ?_
      refine ro_i (D := D) (va_runSN (As := [.int on, .int (nI j5)]) (rest := []) ⟨hx, hb, hml, hown, hts⟩ (c_X2_bitOf l D on (nI j5)  _) ⟨(va_cnB 2 hts gX0_brokenBy_X2_bitOf_n32 rfl rfl rfl (hN.nw 9 rfl) (hts (.initialized RX2) (by decide +kernel)) (by decide +kernel) ⟨Nat.le_of_ble_eq_true rfl, Nat.le_of_ble_eq_true rfl⟩), hts (.static yX2_bitOf) (by decide +kernel), trivial⟩ ⟨cPre.blind, cPre.mk vP0 hKe vD0 hN⟩ rfl rfl hl.1 rfl (lv_room (Nat.le_of_ble_eq_true rfl)) dX0_brokenBy_17 ⟨Nat.zero_le _, Nat.zero_le _⟩) hS hA (fun H locs hkp0 hS => ?_)
      replace hP := hkp0 _ hP
      refine lv_iconst (v := 1) hx hb dX0_brokenBy_20 (by decide) ?_
      refine lv_icmp_ne (tgt := 56) hx hb dX0_brokenBy_21 (by decide) (fun c_21_6 => ?_) (fun c_21_6 => ?_)
      · refine lv_iinc (v := nI (j5 + 1)) (lv' := [(4, .int (nI (j5 + 1))), (0, .ref a0), (1, .int set), (2, .int on), (3, .int broken)]) hx hb dX0_brokenBy_56 hl (k := 4) rfl (inc_nI j5) (by decide) rfl (fun ls hl => ?_)
        refine lv_goto (tgt := 5) hx hb dX0_brokenBy_59 (by decide) ?_
        exact ih5 (j5 + 1) (by omega) broken (itr_step he5 (by (unfold f_X0_brokenBy_5; (try dsimp only); (try rw [if_neg c_21_6]); first | done | rfl)))   _ _ hP hS _ (lv_sub hl [1, 2, 3, 4, 0] rfl)
      · refine lv_iload_n hx hb dX0_brokenBy_24 rfl (lv_at hl 1 rfl) ?_
        refine lv_aload_n hx hb dX0_brokenBy_25 rfl (lv_at hl 0 rfl) ?_
        refine va_get (D := D) (ci := 0) (v := .ref a1) (C := RX0) (T := TX0) (N := 5) hx hb hts hinX0 hown hK hP 0 rfl rfl 2 (by decide) (hts (.fieldLink RX0 9 "HoldUnless$RuleBook" "head" "[I") (by decide +kernel)) (fun _ h9 => h9) rfl dX0_brokenBy_26 ?_
        refine lv_iload hx hb dX0_brokenBy_29 (lv_at hl 4 rfl) ?_
        refine wa_ild hx hb hK hP 1 0 rfl rfl j5 rfl (by omega) (by decide) dX0_brokenBy_31 ?_
        refine ro_i (D := D) (va_runSN (As := [.int set, .int (hd j5)]) (rest := []) ⟨hx, hb, hml, hown, hts⟩ (c_X2_bitOf l D set (hd j5)  _) ⟨(va_cnB 2 hts gX0_brokenBy_X2_bitOf_n32 rfl rfl rfl (hN.nw 9 rfl) (hts (.initialized RX2) (by decide +kernel)) (by decide +kernel) ⟨Nat.le_of_ble_eq_true rfl, Nat.le_of_ble_eq_true rfl⟩), hts (.static yX2_bitOf) (by decide +kernel), trivial⟩ ⟨cPre.blind, cPre.mk vP0 hKe vD0 hN⟩ rfl rfl hl.1 rfl (lv_room (Nat.le_of_ble_eq_true rfl)) dX0_brokenBy_32 ⟨Nat.zero_le _, Nat.zero_le _⟩) hS hA (fun H locs hkp0 hS => ?_)
        replace hP := hkp0 _ hP
        refine lv_if_ne (tgt := 56) hx hb dX0_brokenBy_35 (by decide) (fun c_35_7 => ?_) (fun c_35_7 => ?_)
        · refine lv_iinc (v := nI (j5 + 1)) (lv' := [(4, .int (nI (j5 + 1))), (0, .ref a0), (1, .int set), (2, .int on), (3, .int broken)]) hx hb dX0_brokenBy_56 hl (k := 4) rfl (inc_nI j5) (by decide) rfl (fun ls hl => ?_)
          refine lv_goto (tgt := 5) hx hb dX0_brokenBy_59 (by decide) ?_
          exact ih5 (j5 + 1) (by omega) broken (itr_step he5 (by (unfold f_X0_brokenBy_5; (try dsimp only); (try rw [if_pos c_21_6]); (try rw [if_neg c_35_7]); first | done | rfl)))   _ _ hP hS _ (lv_sub hl [1, 2, 3, 4, 0] rfl)
        · refine lv_aload_n hx hb dX0_brokenBy_38 rfl (lv_at hl 0 rfl) ?_
          refine lv_iload hx hb dX0_brokenBy_39 (lv_at hl 4 rfl) ?_
          refine lv_iload_n hx hb dX0_brokenBy_41 rfl (lv_at hl 1 rfl) ?_
          refine lv_iload_n hx hb dX0_brokenBy_42 rfl (lv_at hl 1 rfl) ?_
          refine ro_i (D := D) (va_runV (As := [.int (nI j5), .int set, .int set]) (rest := []) ⟨hx, hb, hml, hown, hts⟩ (c_X0_bodyHolds l D a0 a1 a2 a3 b1 b2 b3 n may hd fi un j5 set set (by first | assumption | omega) _) (cwV 3 hts gX0_brokenBy_X0_bodyHolds rfl rfl rfl (by decide +kernel) ⟨Nat.le_of_ble_eq_true rfl, Nat.le_of_ble_eq_true rfl⟩) ⟨cPre.blind, va_recv hK hP (ci := 0) (q0 := 0) rfl rfl, cPre.mk hP hK hD hN⟩ rfl rfl hl.1 rfl (lv_room (Nat.le_of_ble_eq_true rfl)) dX0_brokenBy_43 ⟨Nat.zero_le _, Nat.zero_le _⟩) hS hA (fun H locs hkp0 hS => ?_)
          replace hP := hkp0 _ hP
          refine lv_if_eq (tgt := 56) hx hb dX0_brokenBy_46 (by decide) (fun c_46_8 => ?_) (fun c_46_8 => ?_)
          · refine lv_iinc (v := nI (j5 + 1)) (lv' := [(4, .int (nI (j5 + 1))), (0, .ref a0), (1, .int set), (2, .int on), (3, .int broken)]) hx hb dX0_brokenBy_56 hl (k := 4) rfl (inc_nI j5) (by decide) rfl (fun ls hl => ?_)
            refine lv_goto (tgt := 5) hx hb dX0_brokenBy_59 (by decide) ?_
            exact ih5 (j5 + 1) (by omega) broken (itr_step he5 (by (unfold f_X0_brokenBy_5; (try dsimp only); (try rw [if_pos c_21_6]); (try rw [if_pos c_35_7]); (try rw [if_pos c_46_8]); first | done | rfl)))   _ _ hP hS _ (lv_sub hl [1, 2, 3, 4, 0] rfl)
          · refine lv_iload_n hx hb dX0_brokenBy_49 rfl (lv_at hl 3 rfl) ?_
            refine lv_iconst (v := 1) hx hb dX0_brokenBy_50 (by decide) ?_
            refine lv_iload hx hb dX0_brokenBy_51 (lv_at hl 4 rfl) ?_
            refine lv_ishl hx hb dX0_brokenBy_53 ?_
            refine lv_ior hx hb dX0_brokenBy_54 ?_
            refine lv_istore_n (lv' := [(3, .int (broken ||| (1 <<< ((nI j5) &&& 31)))), (0, .ref a0), (1, .int set), (2, .int on), (4, .int (nI j5))]) hx hb dX0_brokenBy_55 rfl hl (by decide) rfl (fun ls hl => ?_)
            refine lv_iinc (v := nI (j5 + 1)) (lv' := [(4, .int (nI (j5 + 1))), (3, .int (broken ||| (1 <<< ((nI j5) &&& 31)))), (0, .ref a0), (1, .int set), (2, .int on)]) hx hb dX0_brokenBy_56 hl (k := 4) rfl (inc_nI j5) (by decide) rfl (fun ls hl => ?_)
            refine lv_goto (tgt := 5) hx hb dX0_brokenBy_59 (by decide) ?_
            exact ih5 (j5 + 1) (by omega) (broken ||| (1 <<< ((nI j5) &&& 31))) (itr_step he5 (by (unfold f_X0_brokenBy_5; (try dsimp only); (try rw [if_pos c_21_6]); (try rw [if_pos c_35_7]); (try rw [if_neg c_46_8]); first | done | rfl)))   _ _ hP hS _ (lv_sub hl [2, 3, 4, 1, 0] rfl)
  exact lp5_1 n 0 (by omega) 0 (itr_zero _ _).symm   _ _ hP hS _ (lv_sub hl [2, 3, 4, 1, 0] rfl)

def s_X0_upholds (n : Nat) (may : Int32) (hd : Nat → Int32) (fi : Nat → Int32) (un : Nat → Int32) (set : Int32) (on : Int32) (asd : Int32) : Int32 := (if (asd &&& (set ^^^ (-1))) = 0 then (if (s_X0_brokenBy n hd fi un set on) = 0 then (if (s_X0_comesOf n hd fi un (asd ||| (may &&& set)) on set) = set then 1 else 0) else 0) else 0)
set_option maxHeartbeats 4000000 in
set_option maxRecDepth 100000 in
theorem c_X0_upholds (l : Launch) (D : va_G) (a0 : Nat) (a1 : Nat) (a2 : Nat) (a3 : Nat) (b1 : ClassId) (b2 : ClassId) (b3 : ClassId) (n : Nat) (may : Int32) (hd : Nat → Int32) (fi : Nat → Int32) (un : Nat → Int32) (set : Int32) (on : Int32) (asd : Int32) (hn : n ≤ 10) (sz : Nat) : Met l yX0_upholds wsX0_upholds ({ frames := 3, cells := 0, slots := 0, locals := 74 }) (va_Pc [.ref a0, .int set, .int on, .int asd] (cPre D (tB a0 a1 a2 a3 b1 b2 b3) (wB a0 a1 a2 a3 b1 b2 b3 (nI n) may hd fi un) sz)) (va_Qi (fun r (_ : Unit) => r = s_X0_upholds n may hd fi un set on asd) (fun _ _ => True) (fun q => sz ≤ q)) 0 0 (fun q => sz ≤ q) := by
  refine Met.ofW (cc := cX0_upholds) (maxL := 4) (ret := (some .boolean)) (by decide) rfl ?_
  intro p e s m args below meth c s₁ B hml hv
  obtain ⟨rfl, hsz, hP, hK, hD, hN⟩ := hv
  have hx := B.exec
  have hb := B.bytes
  have hr := B.returns
  have hts := atoms_spec (ws := wsX0_upholds) B.pre
  have hown : s.vm.findClass RX0 = some m.cls := findClass_of_methodNamed B.named
  have hlocks := B.notSynchronized
  have hinX0 : ∀ w ∈ wsX00, w ∈ wsX0_upholds := fun w h => List.mem_cons_of_mem _ (List.mem_append_right _ h)
  subst hsz
  obtain ⟨A, hAe⟩ : ∃ A : Nat → Prop, A = (fun q : Nat => s.heap.size ≤ q) := ⟨_, rfl⟩
  have hA : ∀ q : Nat, s.heap.size ≤ q → A q := fun q h => by rw [hAe]; exact h
  have hS : va_S A s.heap s.heap [] := va_S.rf
  subst hAe
  have hl := lv_entry ([.ref a0, .int set, .int on, .int asd]) (n := 4) (Nat.le_of_ble_eq_true rfl)
  rw [lg_entry_eq]
  generalize (lg_sl ([.ref a0, .int set, .int on, .int asd]) ++ List.replicate (4 - (lg_sl ([.ref a0, .int set, .int on, .int asd])).length) Slot.unset).toArray = ls at hl ⊢
  replace hl : lv_has ls 4 [(0, .ref a0), (1, .int set), (2, .int on), (3, .int asd)] := hl
  have hKe := hK.sub (tys' := []) [] rfl
  refine lv_iload_n hx hb dX0_upholds_0 rfl (lv_at hl 3 rfl) ?_
  refine lv_iload_n hx hb dX0_upholds_1 rfl (lv_at hl 1 rfl) ?_
  refine lv_iconst (v := (-1)) hx hb dX0_upholds_2 (by decide) ?_
  refine lv_ixor hx hb dX0_upholds_3 ?_
  refine lv_iand hx hb dX0_upholds_4 ?_
  refine lv_if_ne (tgt := 39) hx hb dX0_upholds_5 (by decide) (fun c_5_1 => ?_) (fun c_5_1 => ?_)
  · refine lv_iconst (v := 0) hx hb dX0_upholds_39 (by decide) ?_
    exact ro_zret hx hb hr hS hlocks (show s_X0_upholds n may hd fi un set on asd = 0 from by (unfold s_X0_upholds; (try dsimp only); (try rw [if_neg c_5_1]); first | done | rfl)).symm (by decide +kernel) dX0_upholds_40
  · refine lv_aload_n hx hb dX0_upholds_8 rfl (lv_at hl 0 rfl) ?_
    refine lv_iload_n hx hb dX0_upholds_9 rfl (lv_at hl 1 rfl) ?_
    refine lv_iload_n hx hb dX0_upholds_10 rfl (lv_at hl 2 rfl) ?_
    refine ro_i (D := D) (va_runV (As := [.int set, .int on]) (rest := []) ⟨hx, hb, hml, hown, hts⟩ (c_X0_brokenBy l D a0 a1 a2 a3 b1 b2 b3 n may hd fi un set on (by first | assumption | omega) _) (cwV 2 hts gX0_upholds_X0_brokenBy rfl rfl rfl (by decide +kernel) ⟨Nat.le_of_ble_eq_true rfl, Nat.le_of_ble_eq_true rfl⟩) ⟨cPre.blind, va_recv hK hP (ci := 0) (q0 := 0) rfl rfl, cPre.mk hP hK hD hN⟩ rfl rfl hl.1 rfl (lv_room (Nat.le_of_ble_eq_true rfl)) dX0_upholds_11 ⟨Nat.zero_le _, Nat.zero_le _⟩) hS hA (fun H locs hkp0 hS => ?_)
    replace hP := hkp0 _ hP
    refine lv_if_ne (tgt := 39) hx hb dX0_upholds_14 (by decide) (fun c_14_2 => ?_) (fun c_14_2 => ?_)
    · refine lv_iconst (v := 0) hx hb dX0_upholds_39 (by decide) ?_
      exact ro_zret hx hb hr hS hlocks (show s_X0_upholds n may hd fi un set on asd = 0 from by (unfold s_X0_upholds; (try dsimp only); (try rw [if_pos c_5_1]); (try rw [if_neg c_14_2]); first | done | rfl)).symm (by decide +kernel) dX0_upholds_40
    · refine lv_aload_n hx hb dX0_upholds_17 rfl (lv_at hl 0 rfl) ?_
      refine lv_iload_n hx hb dX0_upholds_18 rfl (lv_at hl 3 rfl) ?_
      refine lv_aload_n hx hb dX0_upholds_19 rfl (lv_at hl 0 rfl) ?_
      refine va_get (D := D) (ci := 0) (v := .int may) (C := RX0) (T := TX0) (N := 5) hx hb hts hinX0 hown hK hP 0 rfl rfl 1 (by decide) (hts (.fieldLink RX0 25 "HoldUnless$RuleBook" "may" "I") (by decide +kernel)) (fun _ h9 => h9) rfl dX0_upholds_20 ?_
      refine lv_iload_n hx hb dX0_upholds_23 rfl (lv_at hl 1 rfl) ?_
      refine lv_iand hx hb dX0_upholds_24 ?_
      refine lv_ior hx hb dX0_upholds_25 ?_
      refine lv_iload_n hx hb dX0_upholds_26 rfl (lv_at hl 2 rfl) ?_
      refine lv_iload_n hx hb dX0_upholds_27 rfl (lv_at hl 1 rfl) ?_
      refine ro_i (D := D) (va_runV (As := [.int (asd ||| (may &&& set)), .int on, .int set]) (rest := []) ⟨hx, hb, hml, hown, hts⟩ (c_X0_comesOf l D a0 a1 a2 a3 b1 b2 b3 n may hd fi un (asd ||| (may &&& set)) on set (by first | assumption | omega) _) (cwV 3 hts gX0_upholds_X0_comesOf rfl rfl rfl (by decide +kernel) ⟨Nat.le_of_ble_eq_true rfl, Nat.le_of_ble_eq_true rfl⟩) ⟨cPre.blind, va_recv hK hP (ci := 0) (q0 := 0) rfl rfl, cPre.mk hP hK hD hN⟩ rfl rfl hl.1 rfl (lv_room (Nat.le_of_ble_eq_true rfl)) dX0_upholds_28 ⟨Nat.zero_le _, Nat.zero_le _⟩) hS hA (fun H locs hkp0 hS => ?_)
      replace hP := hkp0 _ hP
      refine lv_iload_n hx hb dX0_upholds_31 rfl (lv_at hl 1 rfl) ?_
      refine lv_icmp_ne (tgt := 39) hx hb dX0_upholds_32 (by decide) (fun c_32_3 => ?_) (fun c_32_3 => ?_)
      · refine lv_iconst (v := 0) hx hb dX0_upholds_39 (by decide) ?_
        exact ro_zret hx hb hr hS hlocks (show s_X0_upholds n may hd fi un set on asd = 0 from by (unfold s_X0_upholds; (try dsimp only); (try rw [if_pos c_5_1]); (try rw [if_pos c_14_2]); (try rw [if_neg c_32_3]); first | done | rfl)).symm (by decide +kernel) dX0_upholds_40
      · refine lv_iconst (v := 1) hx hb dX0_upholds_35 (by decide) ?_
        refine lv_goto (tgt := 40) hx hb dX0_upholds_36 (by decide) ?_
        exact ro_zret hx hb hr hS hlocks (show s_X0_upholds n may hd fi un set on asd = 1 from by (unfold s_X0_upholds; (try dsimp only); (try rw [if_pos c_5_1]); (try rw [if_pos c_14_2]); (try rw [if_pos c_32_3]); first | done | rfl)).symm (by decide +kernel) dX0_upholds_40

def f_X0_firstRuleBringing_3 (hd : Nat → Int32) (fi : Nat → Int32) (un : Nat → Int32) (a : Int32) (came : Int32) (on : Int32) (against : Int32) (j3 : Nat) (st : Unit) : Int32 ⊕ (Unit) := (if (s_X2_bitOf on (nI j3)) = 1 then (if (hd j3) = a then (if (s_X0_bodyHolds fi un j3 came against) = 0 then (.inr ()) else (.inl (nI j3))) else (.inr ())) else (.inr ()))
def s_X0_firstRuleBringing (n : Nat) (hd : Nat → Int32) (fi : Nat → Int32) (un : Nat → Int32) (a : Int32) (came : Int32) (on : Int32) (against : Int32) : Int32 := (onE (itE (f_X0_firstRuleBringing_3 hd fi un a came on against) () n) (fun st => match st with | () => (-9)))
set_option maxHeartbeats 4000000 in
set_option maxRecDepth 100000 in
theorem c_X0_firstRuleBringing (l : Launch) (D : va_G) (a0 : Nat) (a1 : Nat) (a2 : Nat) (a3 : Nat) (b1 : ClassId) (b2 : ClassId) (b3 : ClassId) (n : Nat) (may : Int32) (hd : Nat → Int32) (fi : Nat → Int32) (un : Nat → Int32) (a : Int32) (came : Int32) (on : Int32) (against : Int32) (hn : n ≤ 10) (sz : Nat) : Met l yX0_firstRuleBringing wsX0_firstRuleBringing ({ frames := 1, cells := 0, slots := 0, locals := 23 }) (va_Pc [.ref a0, .int a, .int came, .int on, .int against] (cPre D (tB a0 a1 a2 a3 b1 b2 b3) (wB a0 a1 a2 a3 b1 b2 b3 (nI n) may hd fi un) sz)) (va_Qi (fun r (_ : Unit) => r = s_X0_firstRuleBringing n hd fi un a came on against) (fun _ _ => True) (fun q => sz ≤ q)) 0 0 (fun q => sz ≤ q) := by
  refine Met.ofW (cc := cX0_firstRuleBringing) (maxL := 6) (ret := (some .int)) (by decide) rfl ?_
  intro p e s m args below meth c s₁ B hml hv
  obtain ⟨rfl, hsz, hP, hK, hD, hN⟩ := hv
  have hx := B.exec
  have hb := B.bytes
  have hr := B.returns
  have hts := atoms_spec (ws := wsX0_firstRuleBringing) B.pre
  have hown : s.vm.findClass RX0 = some m.cls := findClass_of_methodNamed B.named
  have hlocks := B.notSynchronized
  have hinX0 : ∀ w ∈ wsX00, w ∈ wsX0_firstRuleBringing := fun w h => List.mem_cons_of_mem _ (List.mem_append_right _ h)
  subst hsz
  obtain ⟨A, hAe⟩ : ∃ A : Nat → Prop, A = (fun q : Nat => s.heap.size ≤ q) := ⟨_, rfl⟩
  have hA : ∀ q : Nat, s.heap.size ≤ q → A q := fun q h => by rw [hAe]; exact h
  have hS : va_S A s.heap s.heap [] := va_S.rf
  subst hAe
  have hl := lv_entry ([.ref a0, .int a, .int came, .int on, .int against]) (n := 6) (Nat.le_of_ble_eq_true rfl)
  rw [lg_entry_eq]
  generalize (lg_sl ([.ref a0, .int a, .int came, .int on, .int against]) ++ List.replicate (6 - (lg_sl ([.ref a0, .int a, .int came, .int on, .int against])).length) Slot.unset).toArray = ls at hl ⊢
  replace hl : lv_has ls 6 [(0, .ref a0), (1, .int a), (2, .int came), (3, .int on), (4, .int against)] := hl
  have hKe := hK.sub (tys' := []) [] rfl
  refine lv_iconst (v := 0) hx hb dX0_firstRuleBringing_0 (by decide) ?_
  refine lv_istore (lv' := [(5, .int 0), (0, .ref a0), (1, .int a), (2, .int came), (3, .int on), (4, .int against)]) hx hb dX0_firstRuleBringing_1 hl (by decide) rfl (fun ls hl => ?_)
  have lp3_1 : ∀ (z_1 j3 : Nat), j3 + z_1 = n → ∀ (_ : Unit), itE (f_X0_firstRuleBringing_3 hd fi un a came on against) () j3 = .inr () → ∀  (H : Heap) (locs : List Loc), va_P D vwCl (wB a0 a1 a2 a3 b1 b2 b3 (nI n) may hd fi un) H → va_S (fun q : Nat => s.heap.size ≤ q) s.heap H locs → ∀ ls : Array Slot, lv_has ls 6 [(0, .ref a0), (1, .int a), (2, .int came), (3, .int on), (4, .int against), (5, .int (nI j3))] → W p l e (headSpec wsX0_firstRuleBringing ({ frames := 1, cells := 0, slots := 0, locals := 23 })).room s m ([.ref a0, .int a, .int came, .int on, .int against] : List Value).toArray below meth c H locs 0 0 (MQ below (va_Qi (fun r (_ : Unit) => r = s_X0_firstRuleBringing n hd fi un a came on against) (fun _ _ => True) (fun q => s.heap.size ≤ q)) ([.ref a0, .int a, .int came, .int on, .int against] : List Value).toArray s 0 0 (fun q => s.heap.size ≤ q)) (F0 m 3 ls []) := by
    intro z_1
    induction z_1 with
    | zero =>
      intro j3 hj3 _ he3   H locs hP hS ls hl
      obtain rfl : n = j3 := by omega
      refine lv_iload hx hb dX0_firstRuleBringing_3 (lv_at hl 5 rfl) ?_
      refine lv_aload_n hx hb dX0_firstRuleBringing_5 rfl (lv_at hl 0 rfl) ?_
      refine va_get (D := D) (ci := 0) (v := .int (nI n)) (C := RX0) (T := TX0) (N := 5) hx hb hts hinX0 hown hK hP 0 rfl rfl 0 (by decide) (hts (.fieldLink RX0 21 "HoldUnless$RuleBook" "size" "I") (by decide +kernel)) (fun _ h9 => h9) rfl dX0_firstRuleBringing_6 ?_
      refine lv_icmp_ge (tgt := 54) hx hb dX0_firstRuleBringing_9 (by decide) (fun _ => ?_) (fun hh_3 => absurd (nI_le (a := n) (b := n) (by omega) (by omega)) hh_3)
      refine lv_bipush (v := (-9)) hx hb dX0_firstRuleBringing_54 (by decide) ?_
      exact ro_iret hx hb hr hS hlocks (show s_X0_firstRuleBringing n hd fi un a came on against = (-9) from by (unfold s_X0_firstRuleBringing; (try dsimp only); (try rw [he3]); (try dsimp only [onE]); first | done | rfl)).symm dX0_firstRuleBringing_56
    | succ z_1 ih3 =>
      intro j3 hj3 _ he3   H locs hP hS ls hl
      refine lv_iload hx hb dX0_firstRuleBringing_3 (lv_at hl 5 rfl) ?_
      refine lv_aload_n hx hb dX0_firstRuleBringing_5 rfl (lv_at hl 0 rfl) ?_
      refine va_get (D := D) (ci := 0) (v := .int (nI n)) (C := RX0) (T := TX0) (N := 5) hx hb hts hinX0 hown hK hP 0 rfl rfl 0 (by decide) (hts (.fieldLink RX0 21 "HoldUnless$RuleBook" "size" "I") (by decide +kernel)) (fun _ h9 => h9) rfl dX0_firstRuleBringing_6 ?_
      refine lv_icmp_ge (tgt := 54) hx hb dX0_firstRuleBringing_9 (by decide) (fun hh_5 => absurd hh_5 (nI_ge (a := j3) (b := n) (by omega) (by omega))) (fun _ => ?_)
      refine lv_iload_n hx hb dX0_firstRuleBringing_12 rfl (lv_at hl 3 rfl) ?_
      refine lv_iload hx hb dX0_firstRuleBringing_13 (lv_at hl 5 rfl) ?_
      refine ro_i (D := D) (va_runSN (As := [.int on, .int (nI j3)]) (rest := []) ⟨hx, hb, hml, hown, hts⟩ (c_X2_bitOf l D on (nI j3)  _) ⟨(va_cnB 2 hts gX0_firstRuleBringing_X2_bitOf_n32 rfl rfl rfl (hN.nw 9 rfl) (hts (.initialized RX2) (by decide +kernel)) (by decide +kernel) ⟨Nat.le_of_ble_eq_true rfl, Nat.le_of_ble_eq_true rfl⟩), hts (.static yX2_bitOf) (by decide +kernel), trivial⟩ ⟨cPre.blind, cPre.mk vP0 hKe vD0 hN⟩ rfl rfl hl.1 rfl (lv_room (Nat.le_of_ble_eq_true rfl)) dX0_firstRuleBringing_15 ⟨Nat.zero_le _, Nat.zero_le _⟩) hS hA (fun H locs hkp0 hS => ?_)
      replace hP := hkp0 _ hP
      refine lv_iconst (v := 1) hx hb dX0_firstRuleBringing_18 (by decide) ?_
      refine lv_icmp_ne (tgt := 48) hx hb dX0_firstRuleBringing_19 (by decide) (fun c_19_6 => ?_) (fun c_19_6 => ?_)
      · refine lv_iinc (v := nI (j3 + 1)) (lv' := [(5, .int (nI (j3 + 1))), (0, .ref a0), (1, .int a), (2, .int came), (3, .int on), (4, .int against)]) hx hb dX0_firstRuleBringing_48 hl (k := 5) rfl (inc_nI j3) (by decide) rfl (fun ls hl => ?_)
        refine lv_goto (tgt := 3) hx hb dX0_firstRuleBringing_51 (by decide) ?_
        exact ih3 (j3 + 1) (by omega) () (itE_succ he3 (by (unfold f_X0_firstRuleBringing_3; (try dsimp only); (try rw [if_neg c_19_6]); first | done | rfl)))   _ _ hP hS _ (lv_sub hl [1, 2, 3, 4, 5, 0] rfl)
      · refine lv_aload_n hx hb dX0_firstRuleBringing_22 rfl (lv_at hl 0 rfl) ?_
        refine va_get (D := D) (ci := 0) (v := .ref a1) (C := RX0) (T := TX0) (N := 5) hx hb hts hinX0 hown hK hP 0 rfl rfl 2 (by decide) (hts (.fieldLink RX0 9 "HoldUnless$RuleBook" "head" "[I") (by decide +kernel)) (fun _ h9 => h9) rfl dX0_firstRuleBringing_23 ?_
        refine lv_iload hx hb dX0_firstRuleBringing_26 (lv_at hl 5 rfl) ?_
        refine wa_ild hx hb hK hP 1 0 rfl rfl j3 rfl (by omega) (by decide) dX0_firstRuleBringing_28 ?_
        refine lv_iload_n hx hb dX0_firstRuleBringing_29 rfl (lv_at hl 1 rfl) ?_
        refine lv_icmp_ne (tgt := 48) hx hb dX0_firstRuleBringing_30 (by decide) (fun c_30_7 => ?_) (fun c_30_7 => ?_)
        · refine lv_iinc (v := nI (j3 + 1)) (lv' := [(5, .int (nI (j3 + 1))), (0, .ref a0), (1, .int a), (2, .int came), (3, .int on), (4, .int against)]) hx hb dX0_firstRuleBringing_48 hl (k := 5) rfl (inc_nI j3) (by decide) rfl (fun ls hl => ?_)
          refine lv_goto (tgt := 3) hx hb dX0_firstRuleBringing_51 (by decide) ?_
          exact ih3 (j3 + 1) (by omega) () (itE_succ he3 (by (unfold f_X0_firstRuleBringing_3; (try dsimp only); (try rw [if_pos c_19_6]); (try rw [if_neg c_30_7]); first | done | rfl)))   _ _ hP hS _ (lv_sub hl [1, 2, 3, 4, 5, 0] rfl)
        · refine lv_aload_n hx hb dX0_firstRuleBringing_33 rfl (lv_at hl 0 rfl) ?_
          refine lv_iload hx hb dX0_firstRuleBringing_34 (lv_at hl 5 rfl) ?_
          refine lv_iload_n hx hb dX0_firstRuleBringing_36 rfl (lv_at hl 2 rfl) ?_
          refine lv_iload hx hb dX0_firstRuleBringing_37 (lv_at hl 4 rfl) ?_
          refine ro_i (D := D) (va_runV (As := [.int (nI j3), .int came, .int against]) (rest := []) ⟨hx, hb, hml, hown, hts⟩ (c_X0_bodyHolds l D a0 a1 a2 a3 b1 b2 b3 n may hd fi un j3 came against (by first | assumption | omega) _) (cwV 3 hts gX0_firstRuleBringing_X0_bodyHolds rfl rfl rfl (by decide +kernel) ⟨Nat.le_of_ble_eq_true rfl, Nat.le_of_ble_eq_true rfl⟩) ⟨cPre.blind, va_recv hK hP (ci := 0) (q0 := 0) rfl rfl, cPre.mk hP hK hD hN⟩ rfl rfl hl.1 rfl (lv_room (Nat.le_of_ble_eq_true rfl)) dX0_firstRuleBringing_39 ⟨Nat.zero_le _, Nat.zero_le _⟩) hS hA (fun H locs hkp0 hS => ?_)
          replace hP := hkp0 _ hP
          refine lv_if_eq (tgt := 48) hx hb dX0_firstRuleBringing_42 (by decide) (fun c_42_8 => ?_) (fun c_42_8 => ?_)
          · refine lv_iinc (v := nI (j3 + 1)) (lv' := [(5, .int (nI (j3 + 1))), (0, .ref a0), (1, .int a), (2, .int came), (3, .int on), (4, .int against)]) hx hb dX0_firstRuleBringing_48 hl (k := 5) rfl (inc_nI j3) (by decide) rfl (fun ls hl => ?_)
            refine lv_goto (tgt := 3) hx hb dX0_firstRuleBringing_51 (by decide) ?_
            exact ih3 (j3 + 1) (by omega) () (itE_succ he3 (by (unfold f_X0_firstRuleBringing_3; (try dsimp only); (try rw [if_pos c_19_6]); (try rw [if_pos c_30_7]); (try rw [if_pos c_42_8]); first | done | rfl)))   _ _ hP hS _ (lv_sub hl [1, 2, 3, 4, 5, 0] rfl)
          · refine lv_iload hx hb dX0_firstRuleBringing_45 (lv_at hl 5 rfl) ?_
            have hs_9 : itE (f_X0_firstRuleBringing_3 hd fi un a came on against) () (j3 + 1) = (.inl (nI j3)) := itE_succ he3 (by (unfold f_X0_firstRuleBringing_3; (try dsimp only); (try rw [if_pos c_19_6]); (try rw [if_pos c_30_7]); (try rw [if_neg c_42_8]); first | done | rfl))
            have hn_10 := itE_stop hs_9 n (by omega)
            exact ro_iret hx hb hr hS hlocks (show s_X0_firstRuleBringing n hd fi un a came on against = nI j3 from by (unfold s_X0_firstRuleBringing; (try dsimp only); (try rw [hn_10]); (try dsimp only [onE]); first | done | rfl)).symm dX0_firstRuleBringing_47
  exact lp3_1 n 0 (by omega) () (itE_zero _ _)   _ _ hP hS _ (lv_sub hl [1, 2, 3, 4, 5, 0] rfl)

def f_X0_partUnder__fi_6 (hd : Nat → Int32) (fi : Nat → Int32) (heads : Int32) (on : Int32) (j6 : Nat) (st : Int32) : Int32 := match st with | under => (if (s_X2_bitOf on (nI j6)) = 1 then (if (s_X2_bitOf heads (hd j6)) = 1 then (under ||| (fi j6)) else under) else under)
def s_X0_partUnder__fi (n : Nat) (hd : Nat → Int32) (fi : Nat → Int32) (heads : Int32) (on : Int32) : Int32 := (match itr (f_X0_partUnder__fi_6 hd fi heads on) 0 n with | under => under)
set_option maxHeartbeats 4000000 in
set_option maxRecDepth 100000 in
theorem c_X0_partUnder__fi (l : Launch) (D : va_G) (a0 : Nat) (a1 : Nat) (a2 : Nat) (a3 : Nat) (b1 : ClassId) (b2 : ClassId) (b3 : ClassId) (n : Nat) (may : Int32) (hd : Nat → Int32) (fi : Nat → Int32) (un : Nat → Int32) (heads : Int32) (on : Int32) (hn : n ≤ 10) (sz : Nat) : Met l yX0_partUnder wsX0_partUnder ({ frames := 1, cells := 0, slots := 0, locals := 21 }) (va_Pc [.ref a0, .ref a2, .int heads, .int on] (cPre D (tB a0 a1 a2 a3 b1 b2 b3) (wB a0 a1 a2 a3 b1 b2 b3 (nI n) may hd fi un) sz)) (va_Qi (fun r (_ : Unit) => r = s_X0_partUnder__fi n hd fi heads on) (fun _ _ => True) (fun q => sz ≤ q)) 0 0 (fun q => sz ≤ q) := by
  refine Met.ofW (cc := cX0_partUnder) (maxL := 6) (ret := (some .int)) (by decide) rfl ?_
  intro p e s m args below meth c s₁ B hml hv
  obtain ⟨rfl, hsz, hP, hK, hD, hN⟩ := hv
  have hx := B.exec
  have hb := B.bytes
  have hr := B.returns
  have hts := atoms_spec (ws := wsX0_partUnder) B.pre
  have hown : s.vm.findClass RX0 = some m.cls := findClass_of_methodNamed B.named
  have hlocks := B.notSynchronized
  have hinX0 : ∀ w ∈ wsX00, w ∈ wsX0_partUnder := fun w h => List.mem_cons_of_mem _ (List.mem_append_right _ h)
  subst hsz
  obtain ⟨A, hAe⟩ : ∃ A : Nat → Prop, A = (fun q : Nat => s.heap.size ≤ q) := ⟨_, rfl⟩
  have hA : ∀ q : Nat, s.heap.size ≤ q → A q := fun q h => by rw [hAe]; exact h
  have hS : va_S A s.heap s.heap [] := va_S.rf
  subst hAe
  have hl := lv_entry ([.ref a0, .ref a2, .int heads, .int on]) (n := 6) (Nat.le_of_ble_eq_true rfl)
  rw [lg_entry_eq]
  generalize (lg_sl ([.ref a0, .ref a2, .int heads, .int on]) ++ List.replicate (6 - (lg_sl ([.ref a0, .ref a2, .int heads, .int on])).length) Slot.unset).toArray = ls at hl ⊢
  replace hl : lv_has ls 6 [(0, .ref a0), (1, .ref a2), (2, .int heads), (3, .int on)] := hl
  have hKe := hK.sub (tys' := []) [] rfl
  refine lv_iconst (v := 0) hx hb dX0_partUnder_0 (by decide) ?_
  refine lv_istore (lv' := [(4, .int 0), (0, .ref a0), (1, .ref a2), (2, .int heads), (3, .int on)]) hx hb dX0_partUnder_1 hl (by decide) rfl (fun ls hl => ?_)
  refine lv_iconst (v := 0) hx hb dX0_partUnder_3 (by decide) ?_
  refine lv_istore (lv' := [(5, .int 0), (4, .int 0), (0, .ref a0), (1, .ref a2), (2, .int heads), (3, .int on)]) hx hb dX0_partUnder_4 hl (by decide) rfl (fun ls hl => ?_)
  have lp6_1 : ∀ (z_1 j6 : Nat), j6 + z_1 = n → ∀ (under : Int32), under = itr (f_X0_partUnder__fi_6 hd fi heads on) 0 j6 → ∀  (H : Heap) (locs : List Loc), va_P D vwCl (wB a0 a1 a2 a3 b1 b2 b3 (nI n) may hd fi un) H → va_S (fun q : Nat => s.heap.size ≤ q) s.heap H locs → ∀ ls : Array Slot, lv_has ls 6 [(0, .ref a0), (1, .ref a2), (2, .int heads), (3, .int on), (4, .int under), (5, .int (nI j6))] → W p l e (headSpec wsX0_partUnder ({ frames := 1, cells := 0, slots := 0, locals := 21 })).room s m ([.ref a0, .ref a2, .int heads, .int on] : List Value).toArray below meth c H locs 0 0 (MQ below (va_Qi (fun r (_ : Unit) => r = s_X0_partUnder__fi n hd fi heads on) (fun _ _ => True) (fun q => s.heap.size ≤ q)) ([.ref a0, .ref a2, .int heads, .int on] : List Value).toArray s 0 0 (fun q => s.heap.size ≤ q)) (F0 m 6 ls []) := by
    intro z_1
    induction z_1 with
    | zero =>
      intro j6 hj6 under he6   H locs hP hS ls hl
      obtain rfl : n = j6 := by omega
      refine lv_iload hx hb dX0_partUnder_6 (lv_at hl 5 rfl) ?_
      refine lv_aload_n hx hb dX0_partUnder_8 rfl (lv_at hl 0 rfl) ?_
      refine va_get (D := D) (ci := 0) (v := .int (nI n)) (C := RX0) (T := TX0) (N := 5) hx hb hts hinX0 hown hK hP 0 rfl rfl 0 (by decide) (hts (.fieldLink RX0 21 "HoldUnless$RuleBook" "size" "I") (by decide +kernel)) (fun _ h9 => h9) rfl dX0_partUnder_9 ?_
      refine lv_icmp_ge (tgt := 55) hx hb dX0_partUnder_12 (by decide) (fun _ => ?_) (fun hh_3 => absurd (nI_le (a := n) (b := n) (by omega) (by omega)) hh_3)
      refine lv_iload hx hb dX0_partUnder_55 (lv_at hl 4 rfl) ?_
      exact ro_iret hx hb hr hS hlocks (show s_X0_partUnder__fi n hd fi heads on = under from by (unfold s_X0_partUnder__fi; (try dsimp only); (try rw [← he6]); (try dsimp only); first | done | rfl)).symm dX0_partUnder_57
    | succ z_1 ih6 =>
      intro j6 hj6 under he6   H locs hP hS ls hl
      refine lv_iload hx hb dX0_partUnder_6 (lv_at hl 5 rfl) ?_
      refine lv_aload_n hx hb dX0_partUnder_8 rfl (lv_at hl 0 rfl) ?_
      refine va_get (D := D) (ci := 0) (v := .int (nI n)) (C := RX0) (T := TX0) (N := 5) hx hb hts hinX0 hown hK hP 0 rfl rfl 0 (by decide) (hts (.fieldLink RX0 21 "HoldUnless$RuleBook" "size" "I") (by decide +kernel)) (fun _ h9 => h9) rfl dX0_partUnder_9 ?_
      refine lv_icmp_ge (tgt := 55) hx hb dX0_partUnder_12 (by decide) (fun hh_5 => absurd hh_5 (nI_ge (a := j6) (b := n) (by omega) (by omega))) (fun _ => ?_)
      refine lv_iload_n hx hb dX0_partUnder_15 rfl (lv_at hl 3 rfl) ?_
      refine lv_iload hx hb dX0_partUnder_16 (lv_at hl 5 rfl) ?_
      refine ro_i (D := D) (va_runSN (As := [.int on, .int (nI j6)]) (rest := []) ⟨hx, hb, hml, hown, hts⟩ (c_X2_bitOf l D on (nI j6)  _) ⟨(va_cnB 2 hts gX0_partUnder_X2_bitOf_n32 rfl rfl rfl (hN.nw 9 rfl) (hts (.initialized RX2) (by decide +kernel)) (by decide +kernel) ⟨Nat.le_of_ble_eq_true rfl, Nat.le_of_ble_eq_true rfl⟩), hts (.static yX2_bitOf) (by decide +kernel), trivial⟩ ⟨cPre.blind, cPre.mk vP0 hKe vD0 hN⟩ rfl rfl hl.1 rfl (lv_room (Nat.le_of_ble_eq_true rfl)) dX0_partUnder_18 ⟨Nat.zero_le _, Nat.zero_le _⟩) hS hA (fun H locs hkp0 hS => ?_)
      replace hP := hkp0 _ hP
      refine lv_iconst (v := 1) hx hb dX0_partUnder_21 (by decide) ?_
      refine lv_icmp_ne (tgt := 49) hx hb dX0_partUnder_22 (by decide) (fun c_22_6 => ?_) (fun c_22_6 => ?_)
      · refine lv_iinc (v := nI (j6 + 1)) (lv' := [(5, .int (nI (j6 + 1))), (0, .ref a0), (1, .ref a2), (2, .int heads), (3, .int on), (4, .int under)]) hx hb dX0_partUnder_49 hl (k := 5) rfl (inc_nI j6) (by decide) rfl (fun ls hl => ?_)
        refine lv_goto (tgt := 6) hx hb dX0_partUnder_52 (by decide) ?_
        exact ih6 (j6 + 1) (by omega) under (itr_step he6 (by (unfold f_X0_partUnder__fi_6; (try dsimp only); (try rw [if_neg c_22_6]); first | done | rfl)))   _ _ hP hS _ (lv_sub hl [1, 2, 3, 4, 5, 0] rfl)
      · refine lv_iload_n hx hb dX0_partUnder_25 rfl (lv_at hl 2 rfl) ?_
        refine lv_aload_n hx hb dX0_partUnder_26 rfl (lv_at hl 0 rfl) ?_
        refine va_get (D := D) (ci := 0) (v := .ref a1) (C := RX0) (T := TX0) (N := 5) hx hb hts hinX0 hown hK hP 0 rfl rfl 2 (by decide) (hts (.fieldLink RX0 9 "HoldUnless$RuleBook" "head" "[I") (by decide +kernel)) (fun _ h9 => h9) rfl dX0_partUnder_27 ?_
        refine lv_iload hx hb dX0_partUnder_30 (lv_at hl 5 rfl) ?_
        refine wa_ild hx hb hK hP 1 0 rfl rfl j6 rfl (by omega) (by decide) dX0_partUnder_32 ?_
        refine ro_i (D := D) (va_runSN (As := [.int heads, .int (hd j6)]) (rest := []) ⟨hx, hb, hml, hown, hts⟩ (c_X2_bitOf l D heads (hd j6)  _) ⟨(va_cnB 2 hts gX0_partUnder_X2_bitOf_n32 rfl rfl rfl (hN.nw 9 rfl) (hts (.initialized RX2) (by decide +kernel)) (by decide +kernel) ⟨Nat.le_of_ble_eq_true rfl, Nat.le_of_ble_eq_true rfl⟩), hts (.static yX2_bitOf) (by decide +kernel), trivial⟩ ⟨cPre.blind, cPre.mk vP0 hKe vD0 hN⟩ rfl rfl hl.1 rfl (lv_room (Nat.le_of_ble_eq_true rfl)) dX0_partUnder_33 ⟨Nat.zero_le _, Nat.zero_le _⟩) hS hA (fun H locs hkp0 hS => ?_)
        replace hP := hkp0 _ hP
        refine lv_iconst (v := 1) hx hb dX0_partUnder_36 (by decide) ?_
        refine lv_icmp_ne (tgt := 49) hx hb dX0_partUnder_37 (by decide) (fun c_37_7 => ?_) (fun c_37_7 => ?_)
        · refine lv_iinc (v := nI (j6 + 1)) (lv' := [(5, .int (nI (j6 + 1))), (0, .ref a0), (1, .ref a2), (2, .int heads), (3, .int on), (4, .int under)]) hx hb dX0_partUnder_49 hl (k := 5) rfl (inc_nI j6) (by decide) rfl (fun ls hl => ?_)
          refine lv_goto (tgt := 6) hx hb dX0_partUnder_52 (by decide) ?_
          exact ih6 (j6 + 1) (by omega) under (itr_step he6 (by (unfold f_X0_partUnder__fi_6; (try dsimp only); (try rw [if_pos c_22_6]); (try rw [if_neg c_37_7]); first | done | rfl)))   _ _ hP hS _ (lv_sub hl [1, 2, 3, 4, 5, 0] rfl)
        · refine lv_iload hx hb dX0_partUnder_40 (lv_at hl 4 rfl) ?_
          refine lv_aload_n hx hb dX0_partUnder_42 rfl (lv_at hl 1 rfl) ?_
          refine lv_iload hx hb dX0_partUnder_43 (lv_at hl 5 rfl) ?_
          refine wa_ild hx hb hK hP 2 1 rfl rfl j6 rfl (by omega) (by decide) dX0_partUnder_45 ?_
          refine lv_ior hx hb dX0_partUnder_46 ?_
          refine lv_istore (lv' := [(4, .int (under ||| (fi j6))), (0, .ref a0), (1, .ref a2), (2, .int heads), (3, .int on), (5, .int (nI j6))]) hx hb dX0_partUnder_47 hl (by decide) rfl (fun ls hl => ?_)
          refine lv_iinc (v := nI (j6 + 1)) (lv' := [(5, .int (nI (j6 + 1))), (4, .int (under ||| (fi j6))), (0, .ref a0), (1, .ref a2), (2, .int heads), (3, .int on)]) hx hb dX0_partUnder_49 hl (k := 5) rfl (inc_nI j6) (by decide) rfl (fun ls hl => ?_)
          refine lv_goto (tgt := 6) hx hb dX0_partUnder_52 (by decide) ?_
          exact ih6 (j6 + 1) (by omega) (under ||| (fi j6)) (itr_step he6 (by (unfold f_X0_partUnder__fi_6; (try dsimp only); (try rw [if_pos c_22_6]); (try rw [if_pos c_37_7]); first | done | rfl)))   _ _ hP hS _ (lv_sub hl [2, 3, 4, 5, 1, 0] rfl)
  exact lp6_1 n 0 (by omega) 0 (itr_zero _ _).symm   _ _ hP hS _ (lv_sub hl [2, 3, 4, 5, 1, 0] rfl)

def f_X0_partUnder__un_6 (hd : Nat → Int32) (un : Nat → Int32) (heads : Int32) (on : Int32) (j6 : Nat) (st : Int32) : Int32 := match st with | under => (if (s_X2_bitOf on (nI j6)) = 1 then (if (s_X2_bitOf heads (hd j6)) = 1 then (under ||| (un j6)) else under) else under)
def s_X0_partUnder__un (n : Nat) (hd : Nat → Int32) (un : Nat → Int32) (heads : Int32) (on : Int32) : Int32 := (match itr (f_X0_partUnder__un_6 hd un heads on) 0 n with | under => under)
set_option maxHeartbeats 4000000 in
set_option maxRecDepth 100000 in
theorem c_X0_partUnder__un (l : Launch) (D : va_G) (a0 : Nat) (a1 : Nat) (a2 : Nat) (a3 : Nat) (b1 : ClassId) (b2 : ClassId) (b3 : ClassId) (n : Nat) (may : Int32) (hd : Nat → Int32) (fi : Nat → Int32) (un : Nat → Int32) (heads : Int32) (on : Int32) (hn : n ≤ 10) (sz : Nat) : Met l yX0_partUnder wsX0_partUnder ({ frames := 1, cells := 0, slots := 0, locals := 21 }) (va_Pc [.ref a0, .ref a3, .int heads, .int on] (cPre D (tB a0 a1 a2 a3 b1 b2 b3) (wB a0 a1 a2 a3 b1 b2 b3 (nI n) may hd fi un) sz)) (va_Qi (fun r (_ : Unit) => r = s_X0_partUnder__un n hd un heads on) (fun _ _ => True) (fun q => sz ≤ q)) 0 0 (fun q => sz ≤ q) := by
  refine Met.ofW (cc := cX0_partUnder) (maxL := 6) (ret := (some .int)) (by decide) rfl ?_
  intro p e s m args below meth c s₁ B hml hv
  obtain ⟨rfl, hsz, hP, hK, hD, hN⟩ := hv
  have hx := B.exec
  have hb := B.bytes
  have hr := B.returns
  have hts := atoms_spec (ws := wsX0_partUnder) B.pre
  have hown : s.vm.findClass RX0 = some m.cls := findClass_of_methodNamed B.named
  have hlocks := B.notSynchronized
  have hinX0 : ∀ w ∈ wsX00, w ∈ wsX0_partUnder := fun w h => List.mem_cons_of_mem _ (List.mem_append_right _ h)
  subst hsz
  obtain ⟨A, hAe⟩ : ∃ A : Nat → Prop, A = (fun q : Nat => s.heap.size ≤ q) := ⟨_, rfl⟩
  have hA : ∀ q : Nat, s.heap.size ≤ q → A q := fun q h => by rw [hAe]; exact h
  have hS : va_S A s.heap s.heap [] := va_S.rf
  subst hAe
  have hl := lv_entry ([.ref a0, .ref a3, .int heads, .int on]) (n := 6) (Nat.le_of_ble_eq_true rfl)
  rw [lg_entry_eq]
  generalize (lg_sl ([.ref a0, .ref a3, .int heads, .int on]) ++ List.replicate (6 - (lg_sl ([.ref a0, .ref a3, .int heads, .int on])).length) Slot.unset).toArray = ls at hl ⊢
  replace hl : lv_has ls 6 [(0, .ref a0), (1, .ref a3), (2, .int heads), (3, .int on)] := hl
  have hKe := hK.sub (tys' := []) [] rfl
  refine lv_iconst (v := 0) hx hb dX0_partUnder_0 (by decide) ?_
  refine lv_istore (lv' := [(4, .int 0), (0, .ref a0), (1, .ref a3), (2, .int heads), (3, .int on)]) hx hb dX0_partUnder_1 hl (by decide) rfl (fun ls hl => ?_)
  refine lv_iconst (v := 0) hx hb dX0_partUnder_3 (by decide) ?_
  refine lv_istore (lv' := [(5, .int 0), (4, .int 0), (0, .ref a0), (1, .ref a3), (2, .int heads), (3, .int on)]) hx hb dX0_partUnder_4 hl (by decide) rfl (fun ls hl => ?_)
  have lp6_1 : ∀ (z_1 j6 : Nat), j6 + z_1 = n → ∀ (under : Int32), under = itr (f_X0_partUnder__un_6 hd un heads on) 0 j6 → ∀  (H : Heap) (locs : List Loc), va_P D vwCl (wB a0 a1 a2 a3 b1 b2 b3 (nI n) may hd fi un) H → va_S (fun q : Nat => s.heap.size ≤ q) s.heap H locs → ∀ ls : Array Slot, lv_has ls 6 [(0, .ref a0), (1, .ref a3), (2, .int heads), (3, .int on), (4, .int under), (5, .int (nI j6))] → W p l e (headSpec wsX0_partUnder ({ frames := 1, cells := 0, slots := 0, locals := 21 })).room s m ([.ref a0, .ref a3, .int heads, .int on] : List Value).toArray below meth c H locs 0 0 (MQ below (va_Qi (fun r (_ : Unit) => r = s_X0_partUnder__un n hd un heads on) (fun _ _ => True) (fun q => s.heap.size ≤ q)) ([.ref a0, .ref a3, .int heads, .int on] : List Value).toArray s 0 0 (fun q => s.heap.size ≤ q)) (F0 m 6 ls []) := by
    intro z_1
    induction z_1 with
    | zero =>
      intro j6 hj6 under he6   H locs hP hS ls hl
      obtain rfl : n = j6 := by omega
      refine lv_iload hx hb dX0_partUnder_6 (lv_at hl 5 rfl) ?_
      refine lv_aload_n hx hb dX0_partUnder_8 rfl (lv_at hl 0 rfl) ?_
      refine va_get (D := D) (ci := 0) (v := .int (nI n)) (C := RX0) (T := TX0) (N := 5) hx hb hts hinX0 hown hK hP 0 rfl rfl 0 (by decide) (hts (.fieldLink RX0 21 "HoldUnless$RuleBook" "size" "I") (by decide +kernel)) (fun _ h9 => h9) rfl dX0_partUnder_9 ?_
      refine lv_icmp_ge (tgt := 55) hx hb dX0_partUnder_12 (by decide) (fun _ => ?_) (fun hh_3 => absurd (nI_le (a := n) (b := n) (by omega) (by omega)) hh_3)
      refine lv_iload hx hb dX0_partUnder_55 (lv_at hl 4 rfl) ?_
      exact ro_iret hx hb hr hS hlocks (show s_X0_partUnder__un n hd un heads on = under from by (unfold s_X0_partUnder__un; (try dsimp only); (try rw [← he6]); (try dsimp only); first | done | rfl)).symm dX0_partUnder_57
    | succ z_1 ih6 =>
      intro j6 hj6 under he6   H locs hP hS ls hl
      refine lv_iload hx hb dX0_partUnder_6 (lv_at hl 5 rfl) ?_
      refine lv_aload_n hx hb dX0_partUnder_8 rfl (lv_at hl 0 rfl) ?_
      refine va_get (D := D) (ci := 0) (v := .int (nI n)) (C := RX0) (T := TX0) (N := 5) hx hb hts hinX0 hown hK hP 0 rfl rfl 0 (by decide) (hts (.fieldLink RX0 21 "HoldUnless$RuleBook" "size" "I") (by decide +kernel)) (fun _ h9 => h9) rfl dX0_partUnder_9 ?_
      refine lv_icmp_ge (tgt := 55) hx hb dX0_partUnder_12 (by decide) (fun hh_5 => absurd hh_5 (nI_ge (a := j6) (b := n) (by omega) (by omega))) (fun _ => ?_)
      refine lv_iload_n hx hb dX0_partUnder_15 rfl (lv_at hl 3 rfl) ?_
      refine lv_iload hx hb dX0_partUnder_16 (lv_at hl 5 rfl) ?_
      refine ro_i (D := D) (va_runSN (As := [.int on, .int (nI j6)]) (rest := []) ⟨hx, hb, hml, hown, hts⟩ (c_X2_bitOf l D on (nI j6)  _) ⟨(va_cnB 2 hts gX0_partUnder_X2_bitOf_n32 rfl rfl rfl (hN.nw 9 rfl) (hts (.initialized RX2) (by decide +kernel)) (by decide +kernel) ⟨Nat.le_of_ble_eq_true rfl, Nat.le_of_ble_eq_true rfl⟩), hts (.static yX2_bitOf) (by decide +kernel), trivial⟩ ⟨cPre.blind, cPre.mk vP0 hKe vD0 hN⟩ rfl rfl hl.1 rfl (lv_room (Nat.le_of_ble_eq_true rfl)) dX0_partUnder_18 ⟨Nat.zero_le _, Nat.zero_le _⟩) hS hA (fun H locs hkp0 hS => ?_)
      replace hP := hkp0 _ hP
      refine lv_iconst (v := 1) hx hb dX0_partUnder_21 (by decide) ?_
      refine lv_icmp_ne (tgt := 49) hx hb dX0_partUnder_22 (by decide) (fun c_22_6 => ?_) (fun c_22_6 => ?_)
      · refine lv_iinc (v := nI (j6 + 1)) (lv' := [(5, .int (nI (j6 + 1))), (0, .ref a0), (1, .ref a3), (2, .int heads), (3, .int on), (4, .int under)]) hx hb dX0_partUnder_49 hl (k := 5) rfl (inc_nI j6) (by decide) rfl (fun ls hl => ?_)
        refine lv_goto (tgt := 6) hx hb dX0_partUnder_52 (by decide) ?_
        exact ih6 (j6 + 1) (by omega) under (itr_step he6 (by (unfold f_X0_partUnder__un_6; (try dsimp only); (try rw [if_neg c_22_6]); first | done | rfl)))   _ _ hP hS _ (lv_sub hl [1, 2, 3, 4, 5, 0] rfl)
      · refine lv_iload_n hx hb dX0_partUnder_25 rfl (lv_at hl 2 rfl) ?_
        refine lv_aload_n hx hb dX0_partUnder_26 rfl (lv_at hl 0 rfl) ?_
        refine va_get (D := D) (ci := 0) (v := .ref a1) (C := RX0) (T := TX0) (N := 5) hx hb hts hinX0 hown hK hP 0 rfl rfl 2 (by decide) (hts (.fieldLink RX0 9 "HoldUnless$RuleBook" "head" "[I") (by decide +kernel)) (fun _ h9 => h9) rfl dX0_partUnder_27 ?_
        refine lv_iload hx hb dX0_partUnder_30 (lv_at hl 5 rfl) ?_
        refine wa_ild hx hb hK hP 1 0 rfl rfl j6 rfl (by omega) (by decide) dX0_partUnder_32 ?_
        refine ro_i (D := D) (va_runSN (As := [.int heads, .int (hd j6)]) (rest := []) ⟨hx, hb, hml, hown, hts⟩ (c_X2_bitOf l D heads (hd j6)  _) ⟨(va_cnB 2 hts gX0_partUnder_X2_bitOf_n32 rfl rfl rfl (hN.nw 9 rfl) (hts (.initialized RX2) (by decide +kernel)) (by decide +kernel) ⟨Nat.le_of_ble_eq_true rfl, Nat.le_of_ble_eq_true rfl⟩), hts (.static yX2_bitOf) (by decide +kernel), trivial⟩ ⟨cPre.blind, cPre.mk vP0 hKe vD0 hN⟩ rfl rfl hl.1 rfl (lv_room (Nat.le_of_ble_eq_true rfl)) dX0_partUnder_33 ⟨Nat.zero_le _, Nat.zero_le _⟩) hS hA (fun H locs hkp0 hS => ?_)
        replace hP := hkp0 _ hP
        refine lv_iconst (v := 1) hx hb dX0_partUnder_36 (by decide) ?_
        refine lv_icmp_ne (tgt := 49) hx hb dX0_partUnder_37 (by decide) (fun c_37_7 => ?_) (fun c_37_7 => ?_)
        · refine lv_iinc (v := nI (j6 + 1)) (lv' := [(5, .int (nI (j6 + 1))), (0, .ref a0), (1, .ref a3), (2, .int heads), (3, .int on), (4, .int under)]) hx hb dX0_partUnder_49 hl (k := 5) rfl (inc_nI j6) (by decide) rfl (fun ls hl => ?_)
          refine lv_goto (tgt := 6) hx hb dX0_partUnder_52 (by decide) ?_
          exact ih6 (j6 + 1) (by omega) under (itr_step he6 (by (unfold f_X0_partUnder__un_6; (try dsimp only); (try rw [if_pos c_22_6]); (try rw [if_neg c_37_7]); first | done | rfl)))   _ _ hP hS _ (lv_sub hl [1, 2, 3, 4, 5, 0] rfl)
        · refine lv_iload hx hb dX0_partUnder_40 (lv_at hl 4 rfl) ?_
          refine lv_aload_n hx hb dX0_partUnder_42 rfl (lv_at hl 1 rfl) ?_
          refine lv_iload hx hb dX0_partUnder_43 (lv_at hl 5 rfl) ?_
          refine wa_ild hx hb hK hP 3 2 rfl rfl j6 rfl (by omega) (by decide) dX0_partUnder_45 ?_
          refine lv_ior hx hb dX0_partUnder_46 ?_
          refine lv_istore (lv' := [(4, .int (under ||| (un j6))), (0, .ref a0), (1, .ref a3), (2, .int heads), (3, .int on), (5, .int (nI j6))]) hx hb dX0_partUnder_47 hl (by decide) rfl (fun ls hl => ?_)
          refine lv_iinc (v := nI (j6 + 1)) (lv' := [(5, .int (nI (j6 + 1))), (4, .int (under ||| (un j6))), (0, .ref a0), (1, .ref a3), (2, .int heads), (3, .int on)]) hx hb dX0_partUnder_49 hl (k := 5) rfl (inc_nI j6) (by decide) rfl (fun ls hl => ?_)
          refine lv_goto (tgt := 6) hx hb dX0_partUnder_52 (by decide) ?_
          exact ih6 (j6 + 1) (by omega) (under ||| (un j6)) (itr_step he6 (by (unfold f_X0_partUnder__un_6; (try dsimp only); (try rw [if_pos c_22_6]); (try rw [if_pos c_37_7]); first | done | rfl)))   _ _ hP hS _ (lv_sub hl [2, 3, 4, 5, 1, 0] rfl)
  exact lp6_1 n 0 (by omega) 0 (itr_zero _ _).symm   _ _ hP hS _ (lv_sub hl [2, 3, 4, 5, 1, 0] rfl)

def s_X0_ifsUnder (n : Nat) (hd : Nat → Int32) (fi : Nat → Int32) (heads : Int32) (on : Int32) : Int32 := (s_X0_partUnder__fi n hd fi heads on)
set_option maxHeartbeats 4000000 in
set_option maxRecDepth 100000 in
theorem c_X0_ifsUnder (l : Launch) (D : va_G) (a0 : Nat) (a1 : Nat) (a2 : Nat) (a3 : Nat) (b1 : ClassId) (b2 : ClassId) (b3 : ClassId) (n : Nat) (may : Int32) (hd : Nat → Int32) (fi : Nat → Int32) (un : Nat → Int32) (heads : Int32) (on : Int32) (hn : n ≤ 10) (sz : Nat) : Met l yX0_ifsUnder wsX0_ifsUnder ({ frames := 2, cells := 0, slots := 0, locals := 46 }) (va_Pc [.ref a0, .int heads, .int on] (cPre D (tB a0 a1 a2 a3 b1 b2 b3) (wB a0 a1 a2 a3 b1 b2 b3 (nI n) may hd fi un) sz)) (va_Qi (fun r (_ : Unit) => r = s_X0_ifsUnder n hd fi heads on) (fun _ _ => True) (fun q => sz ≤ q)) 0 0 (fun q => sz ≤ q) := by
  refine Met.ofW (cc := cX0_ifsUnder) (maxL := 3) (ret := (some .int)) (by decide) rfl ?_
  intro p e s m args below meth c s₁ B hml hv
  obtain ⟨rfl, hsz, hP, hK, hD, hN⟩ := hv
  have hx := B.exec
  have hb := B.bytes
  have hr := B.returns
  have hts := atoms_spec (ws := wsX0_ifsUnder) B.pre
  have hown : s.vm.findClass RX0 = some m.cls := findClass_of_methodNamed B.named
  have hlocks := B.notSynchronized
  have hinX0 : ∀ w ∈ wsX00, w ∈ wsX0_ifsUnder := fun w h => List.mem_cons_of_mem _ (List.mem_append_right _ h)
  subst hsz
  obtain ⟨A, hAe⟩ : ∃ A : Nat → Prop, A = (fun q : Nat => s.heap.size ≤ q) := ⟨_, rfl⟩
  have hA : ∀ q : Nat, s.heap.size ≤ q → A q := fun q h => by rw [hAe]; exact h
  have hS : va_S A s.heap s.heap [] := va_S.rf
  subst hAe
  have hl := lv_entry ([.ref a0, .int heads, .int on]) (n := 3) (Nat.le_of_ble_eq_true rfl)
  rw [lg_entry_eq]
  generalize (lg_sl ([.ref a0, .int heads, .int on]) ++ List.replicate (3 - (lg_sl ([.ref a0, .int heads, .int on])).length) Slot.unset).toArray = ls at hl ⊢
  replace hl : lv_has ls 3 [(0, .ref a0), (1, .int heads), (2, .int on)] := hl
  have hKe := hK.sub (tys' := []) [] rfl
  refine lv_aload_n hx hb dX0_ifsUnder_0 rfl (lv_at hl 0 rfl) ?_
  refine lv_aload_n hx hb dX0_ifsUnder_1 rfl (lv_at hl 0 rfl) ?_
  refine va_get (D := D) (ci := 0) (v := .ref a2) (C := RX0) (T := TX0) (N := 5) hx hb hts hinX0 hown hK hP 0 rfl rfl 3 (by decide) (hts (.fieldLink RX0 15 "HoldUnless$RuleBook" "ifs" "[I") (by decide +kernel)) (fun _ h9 => h9) rfl dX0_ifsUnder_2 ?_
  refine lv_iload_n hx hb dX0_ifsUnder_5 rfl (lv_at hl 1 rfl) ?_
  refine lv_iload_n hx hb dX0_ifsUnder_6 rfl (lv_at hl 2 rfl) ?_
  refine ro_i (D := D) (va_runV (As := [.ref a2, .int heads, .int on]) (rest := []) ⟨hx, hb, hml, hown, hts⟩ (c_X0_partUnder__fi l D a0 a1 a2 a3 b1 b2 b3 n may hd fi un heads on (by first | assumption | omega) _) (cwV 3 hts gX0_ifsUnder_X0_partUnder rfl rfl rfl (by decide +kernel) ⟨Nat.le_of_ble_eq_true rfl, Nat.le_of_ble_eq_true rfl⟩) ⟨cPre.blind, va_recv hK hP (ci := 0) (q0 := 0) rfl rfl, cPre.mk hP hK hD hN⟩ rfl rfl hl.1 rfl (lv_room (Nat.le_of_ble_eq_true rfl)) dX0_ifsUnder_7 ⟨Nat.zero_le _, Nat.zero_le _⟩) hS hA (fun H locs hkp0 hS => ?_)
  replace hP := hkp0 _ hP
  exact ro_iret hx hb hr hS hlocks (show s_X0_ifsUnder n hd fi heads on = (s_X0_partUnder__fi n hd fi heads on) from by (unfold s_X0_ifsUnder; (try dsimp only); first | done | rfl)).symm dX0_ifsUnder_10

def s_X0_unlessUnder (n : Nat) (hd : Nat → Int32) (un : Nat → Int32) (heads : Int32) (on : Int32) : Int32 := (s_X0_partUnder__un n hd un heads on)
set_option maxHeartbeats 4000000 in
set_option maxRecDepth 100000 in
theorem c_X0_unlessUnder (l : Launch) (D : va_G) (a0 : Nat) (a1 : Nat) (a2 : Nat) (a3 : Nat) (b1 : ClassId) (b2 : ClassId) (b3 : ClassId) (n : Nat) (may : Int32) (hd : Nat → Int32) (fi : Nat → Int32) (un : Nat → Int32) (heads : Int32) (on : Int32) (hn : n ≤ 10) (sz : Nat) : Met l yX0_unlessUnder wsX0_unlessUnder ({ frames := 2, cells := 0, slots := 0, locals := 46 }) (va_Pc [.ref a0, .int heads, .int on] (cPre D (tB a0 a1 a2 a3 b1 b2 b3) (wB a0 a1 a2 a3 b1 b2 b3 (nI n) may hd fi un) sz)) (va_Qi (fun r (_ : Unit) => r = s_X0_unlessUnder n hd un heads on) (fun _ _ => True) (fun q => sz ≤ q)) 0 0 (fun q => sz ≤ q) := by
  refine Met.ofW (cc := cX0_unlessUnder) (maxL := 3) (ret := (some .int)) (by decide) rfl ?_
  intro p e s m args below meth c s₁ B hml hv
  obtain ⟨rfl, hsz, hP, hK, hD, hN⟩ := hv
  have hx := B.exec
  have hb := B.bytes
  have hr := B.returns
  have hts := atoms_spec (ws := wsX0_unlessUnder) B.pre
  have hown : s.vm.findClass RX0 = some m.cls := findClass_of_methodNamed B.named
  have hlocks := B.notSynchronized
  have hinX0 : ∀ w ∈ wsX00, w ∈ wsX0_unlessUnder := fun w h => List.mem_cons_of_mem _ (List.mem_append_right _ h)
  subst hsz
  obtain ⟨A, hAe⟩ : ∃ A : Nat → Prop, A = (fun q : Nat => s.heap.size ≤ q) := ⟨_, rfl⟩
  have hA : ∀ q : Nat, s.heap.size ≤ q → A q := fun q h => by rw [hAe]; exact h
  have hS : va_S A s.heap s.heap [] := va_S.rf
  subst hAe
  have hl := lv_entry ([.ref a0, .int heads, .int on]) (n := 3) (Nat.le_of_ble_eq_true rfl)
  rw [lg_entry_eq]
  generalize (lg_sl ([.ref a0, .int heads, .int on]) ++ List.replicate (3 - (lg_sl ([.ref a0, .int heads, .int on])).length) Slot.unset).toArray = ls at hl ⊢
  replace hl : lv_has ls 3 [(0, .ref a0), (1, .int heads), (2, .int on)] := hl
  have hKe := hK.sub (tys' := []) [] rfl
  refine lv_aload_n hx hb dX0_unlessUnder_0 rfl (lv_at hl 0 rfl) ?_
  refine lv_aload_n hx hb dX0_unlessUnder_1 rfl (lv_at hl 0 rfl) ?_
  refine va_get (D := D) (ci := 0) (v := .ref a3) (C := RX0) (T := TX0) (N := 5) hx hb hts hinX0 hown hK hP 0 rfl rfl 4 (by decide) (hts (.fieldLink RX0 18 "HoldUnless$RuleBook" "unless" "[I") (by decide +kernel)) (fun _ h9 => h9) rfl dX0_unlessUnder_2 ?_
  refine lv_iload_n hx hb dX0_unlessUnder_5 rfl (lv_at hl 1 rfl) ?_
  refine lv_iload_n hx hb dX0_unlessUnder_6 rfl (lv_at hl 2 rfl) ?_
  refine ro_i (D := D) (va_runV (As := [.ref a3, .int heads, .int on]) (rest := []) ⟨hx, hb, hml, hown, hts⟩ (c_X0_partUnder__un l D a0 a1 a2 a3 b1 b2 b3 n may hd fi un heads on (by first | assumption | omega) _) (cwV 3 hts gX0_unlessUnder_X0_partUnder rfl rfl rfl (by decide +kernel) ⟨Nat.le_of_ble_eq_true rfl, Nat.le_of_ble_eq_true rfl⟩) ⟨cPre.blind, va_recv hK hP (ci := 0) (q0 := 0) rfl rfl, cPre.mk hP hK hD hN⟩ rfl rfl hl.1 rfl (lv_room (Nat.le_of_ble_eq_true rfl)) dX0_unlessUnder_7 ⟨Nat.zero_le _, Nat.zero_le _⟩) hS hA (fun H locs hkp0 hS => ?_)
  replace hP := hkp0 _ hP
  exact ro_iret hx hb hr hS hlocks (show s_X0_unlessUnder n hd un heads on = (s_X0_partUnder__un n hd un heads on) from by (unfold s_X0_unlessUnder; (try dsimp only); first | done | rfl)).symm dX0_unlessUnder_10

def f_X0_hangsByIf_12 (n : Nat) (hd : Nat → Int32) (fi : Nat → Int32) (on : Int32) (j12 : Nat) (st : Int32) : Int32 := match st with | reached => (reached ||| (s_X0_ifsUnder n hd fi reached on))
def s_X0_hangsByIf (n : Nat) (hd : Nat → Int32) (fi : Nat → Int32) (a : Int32) (on : Int32) : Int32 := (match itr (f_X0_hangsByIf_12 n hd fi on) (s_X0_ifsUnder n hd fi (1 <<< (a &&& 31)) on) 8 with | reached => (if (s_X2_bitOf reached a) = 1 then 1 else 0))
set_option maxHeartbeats 4000000 in
set_option maxRecDepth 100000 in
theorem c_X0_hangsByIf (l : Launch) (D : va_G) (a0 : Nat) (a1 : Nat) (a2 : Nat) (a3 : Nat) (b1 : ClassId) (b2 : ClassId) (b3 : ClassId) (n : Nat) (may : Int32) (hd : Nat → Int32) (fi : Nat → Int32) (un : Nat → Int32) (a : Int32) (on : Int32) (hn : n ≤ 10) (sz : Nat) : Met l yX0_hangsByIf wsX0_hangsByIf ({ frames := 3, cells := 0, slots := 0, locals := 68 }) (va_Pc [.ref a0, .int a, .int on] (cPre D (tB a0 a1 a2 a3 b1 b2 b3) (wB a0 a1 a2 a3 b1 b2 b3 (nI n) may hd fi un) sz)) (va_Qi (fun r (_ : Unit) => r = s_X0_hangsByIf n hd fi a on) (fun _ _ => True) (fun q => sz ≤ q)) 0 0 (fun q => sz ≤ q) := by
  refine Met.ofW (cc := cX0_hangsByIf) (maxL := 5) (ret := (some .boolean)) (by decide) rfl ?_
  intro p e s m args below meth c s₁ B hml hv
  obtain ⟨rfl, hsz, hP, hK, hD, hN⟩ := hv
  have hx := B.exec
  have hb := B.bytes
  have hr := B.returns
  have hts := atoms_spec (ws := wsX0_hangsByIf) B.pre
  have hown : s.vm.findClass RX0 = some m.cls := findClass_of_methodNamed B.named
  have hlocks := B.notSynchronized
  subst hsz
  obtain ⟨A, hAe⟩ : ∃ A : Nat → Prop, A = (fun q : Nat => s.heap.size ≤ q) := ⟨_, rfl⟩
  have hA : ∀ q : Nat, s.heap.size ≤ q → A q := fun q h => by rw [hAe]; exact h
  have hS : va_S A s.heap s.heap [] := va_S.rf
  subst hAe
  have hl := lv_entry ([.ref a0, .int a, .int on]) (n := 5) (Nat.le_of_ble_eq_true rfl)
  rw [lg_entry_eq]
  generalize (lg_sl ([.ref a0, .int a, .int on]) ++ List.replicate (5 - (lg_sl ([.ref a0, .int a, .int on])).length) Slot.unset).toArray = ls at hl ⊢
  replace hl : lv_has ls 5 [(0, .ref a0), (1, .int a), (2, .int on)] := hl
  have hKe := hK.sub (tys' := []) [] rfl
  refine lv_aload_n hx hb dX0_hangsByIf_0 rfl (lv_at hl 0 rfl) ?_
  refine lv_iconst (v := 1) hx hb dX0_hangsByIf_1 (by decide) ?_
  refine lv_iload_n hx hb dX0_hangsByIf_2 rfl (lv_at hl 1 rfl) ?_
  refine lv_ishl hx hb dX0_hangsByIf_3 ?_
  refine lv_iload_n hx hb dX0_hangsByIf_4 rfl (lv_at hl 2 rfl) ?_
  refine ro_i (D := D) (va_runV (As := [.int (1 <<< (a &&& 31)), .int on]) (rest := []) ⟨hx, hb, hml, hown, hts⟩ (c_X0_ifsUnder l D a0 a1 a2 a3 b1 b2 b3 n may hd fi un (1 <<< (a &&& 31)) on (by first | assumption | omega) _) (cwV 2 hts gX0_hangsByIf_X0_ifsUnder rfl rfl rfl (by decide +kernel) ⟨Nat.le_of_ble_eq_true rfl, Nat.le_of_ble_eq_true rfl⟩) ⟨cPre.blind, va_recv hK hP (ci := 0) (q0 := 0) rfl rfl, cPre.mk hP hK hD hN⟩ rfl rfl hl.1 rfl (lv_room (Nat.le_of_ble_eq_true rfl)) dX0_hangsByIf_5 ⟨Nat.zero_le _, Nat.zero_le _⟩) hS hA (fun H locs hkp0 hS => ?_)
  replace hP := hkp0 _ hP
  refine lv_istore_n (lv' := [(3, .int (s_X0_ifsUnder n hd fi (1 <<< (a &&& 31)) on)), (0, .ref a0), (1, .int a), (2, .int on)]) hx hb dX0_hangsByIf_8 rfl hl (by decide) rfl (fun ls hl => ?_)
  refine lv_iconst (v := 0) hx hb dX0_hangsByIf_9 (by decide) ?_
  refine lv_istore (lv' := [(4, .int 0), (3, .int (s_X0_ifsUnder n hd fi (1 <<< (a &&& 31)) on)), (0, .ref a0), (1, .int a), (2, .int on)]) hx hb dX0_hangsByIf_10 hl (by decide) rfl (fun ls hl => ?_)
  have lp12_1 : ∀ (z_1 j12 : Nat), j12 + z_1 = 8 → ∀ (reached : Int32), reached = itr (f_X0_hangsByIf_12 n hd fi on) (s_X0_ifsUnder n hd fi (1 <<< (a &&& 31)) on) j12 → ∀  (H : Heap) (locs : List Loc), va_P D vwCl (wB a0 a1 a2 a3 b1 b2 b3 (nI n) may hd fi un) H → va_S (fun q : Nat => s.heap.size ≤ q) s.heap H locs → ∀ ls : Array Slot, lv_has ls 5 [(0, .ref a0), (1, .int a), (2, .int on), (3, .int reached), (4, .int (nI j12))] → W p l e (headSpec wsX0_hangsByIf ({ frames := 3, cells := 0, slots := 0, locals := 68 })).room s m ([.ref a0, .int a, .int on] : List Value).toArray below meth c H locs 0 0 (MQ below (va_Qi (fun r (_ : Unit) => r = s_X0_hangsByIf n hd fi a on) (fun _ _ => True) (fun q => s.heap.size ≤ q)) ([.ref a0, .int a, .int on] : List Value).toArray s 0 0 (fun q => s.heap.size ≤ q)) (F0 m 12 ls []) := by
    intro z_1
    induction z_1 with
    | zero =>
      intro j12 hj12 reached he12   H locs hP hS ls hl
      obtain rfl : 8 = j12 := by omega
      refine lv_iload hx hb dX0_hangsByIf_12 (lv_at hl 4 rfl) ?_
      refine lv_bipush (v := 8) hx hb dX0_hangsByIf_14 (by decide) ?_
      refine lv_icmp_ge (tgt := 34) hx hb dX0_hangsByIf_16 (by decide) (fun _ => ?_) (fun hh_3 => absurd (nI_le (a := 8) (b := 8) (by omega) (by omega)) hh_3)
      refine lv_iload_n hx hb dX0_hangsByIf_34 rfl (lv_at hl 3 rfl) ?_
      refine lv_iload_n hx hb dX0_hangsByIf_35 rfl (lv_at hl 1 rfl) ?_
      refine ro_i (D := D) (va_runSN (As := [.int reached, .int a]) (rest := []) ⟨hx, hb, hml, hown, hts⟩ (c_X2_bitOf l D reached a  _) ⟨(va_cnB 2 hts gX0_hangsByIf_X2_bitOf_n32 rfl rfl rfl (hN.nw 9 rfl) (hts (.initialized RX2) (by decide +kernel)) (by decide +kernel) ⟨Nat.le_of_ble_eq_true rfl, Nat.le_of_ble_eq_true rfl⟩), hts (.static yX2_bitOf) (by decide +kernel), trivial⟩ ⟨cPre.blind, cPre.mk vP0 hKe vD0 hN⟩ rfl rfl hl.1 rfl (lv_room (Nat.le_of_ble_eq_true rfl)) dX0_hangsByIf_36 ⟨Nat.zero_le _, Nat.zero_le _⟩) hS hA (fun H locs hkp0 hS => ?_)
      replace hP := hkp0 _ hP
      refine lv_iconst (v := 1) hx hb dX0_hangsByIf_39 (by decide) ?_
      refine lv_icmp_ne (tgt := 47) hx hb dX0_hangsByIf_40 (by decide) (fun c_40_4 => ?_) (fun c_40_4 => ?_)
      · refine lv_iconst (v := 0) hx hb dX0_hangsByIf_47 (by decide) ?_
        exact ro_zret hx hb hr hS hlocks (show s_X0_hangsByIf n hd fi a on = 0 from by (unfold s_X0_hangsByIf; (try dsimp only); (try rw [← he12]); (try dsimp only); (try rw [if_neg c_40_4]); first | done | rfl)).symm (by decide +kernel) dX0_hangsByIf_48
      · refine lv_iconst (v := 1) hx hb dX0_hangsByIf_43 (by decide) ?_
        refine lv_goto (tgt := 48) hx hb dX0_hangsByIf_44 (by decide) ?_
        exact ro_zret hx hb hr hS hlocks (show s_X0_hangsByIf n hd fi a on = 1 from by (unfold s_X0_hangsByIf; (try dsimp only); (try rw [← he12]); (try dsimp only); (try rw [if_pos c_40_4]); first | done | rfl)).symm (by decide +kernel) dX0_hangsByIf_48
    | succ z_1 ih12 =>
      intro j12 hj12 reached he12   H locs hP hS ls hl
      refine lv_iload hx hb dX0_hangsByIf_12 (lv_at hl 4 rfl) ?_
      refine lv_bipush (v := 8) hx hb dX0_hangsByIf_14 (by decide) ?_
      refine lv_icmp_ge (tgt := 34) hx hb dX0_hangsByIf_16 (by decide) (fun hh_6 => absurd hh_6 (nI_ge (a := j12) (b := 8) (by omega) (by omega))) (fun _ => ?_)
      refine lv_iload_n hx hb dX0_hangsByIf_19 rfl (lv_at hl 3 rfl) ?_
      refine lv_aload_n hx hb dX0_hangsByIf_20 rfl (lv_at hl 0 rfl) ?_
      refine lv_iload_n hx hb dX0_hangsByIf_21 rfl (lv_at hl 3 rfl) ?_
      refine lv_iload_n hx hb dX0_hangsByIf_22 rfl (lv_at hl 2 rfl) ?_
      refine ro_i (D := D) (va_runV (As := [.int reached, .int on]) (rest := [.int reached]) ⟨hx, hb, hml, hown, hts⟩ (c_X0_ifsUnder l D a0 a1 a2 a3 b1 b2 b3 n may hd fi un reached on (by first | assumption | omega) _) (cwV 2 hts gX0_hangsByIf_X0_ifsUnder rfl rfl rfl (by decide +kernel) ⟨Nat.le_of_ble_eq_true rfl, Nat.le_of_ble_eq_true rfl⟩) ⟨cPre.blind, va_recv hK hP (ci := 0) (q0 := 0) rfl rfl, cPre.mk hP hK hD hN⟩ rfl rfl hl.1 rfl (lv_room (Nat.le_of_ble_eq_true rfl)) dX0_hangsByIf_23 ⟨Nat.zero_le _, Nat.zero_le _⟩) hS hA (fun H locs hkp0 hS => ?_)
      replace hP := hkp0 _ hP
      refine lv_ior hx hb dX0_hangsByIf_26 ?_
      refine lv_istore_n (lv' := [(3, .int (reached ||| (s_X0_ifsUnder n hd fi reached on))), (0, .ref a0), (1, .int a), (2, .int on), (4, .int (nI j12))]) hx hb dX0_hangsByIf_27 rfl hl (by decide) rfl (fun ls hl => ?_)
      refine lv_iinc (v := nI (j12 + 1)) (lv' := [(4, .int (nI (j12 + 1))), (3, .int (reached ||| (s_X0_ifsUnder n hd fi reached on))), (0, .ref a0), (1, .int a), (2, .int on)]) hx hb dX0_hangsByIf_28 hl (k := 4) rfl (inc_nI j12) (by decide) rfl (fun ls hl => ?_)
      refine lv_goto (tgt := 12) hx hb dX0_hangsByIf_31 (by decide) ?_
      exact ih12 (j12 + 1) (by omega) (reached ||| (s_X0_ifsUnder n hd fi reached on)) (itr_step he12 (by (unfold f_X0_hangsByIf_12; (try dsimp only); first | done | rfl)))   _ _ hP hS _ (lv_sub hl [2, 3, 4, 1, 0] rfl)
  exact lp12_1 8 0 (by omega) (s_X0_ifsUnder n hd fi (1 <<< (a &&& 31)) on) (itr_zero _ _).symm   _ _ hP hS _ (lv_sub hl [2, 3, 4, 1, 0] rfl)

def f_X0_isTangled_10 (n : Nat) (hd : Nat → Int32) (fi : Nat → Int32) (un : Nat → Int32) (on : Int32) (j10 : Nat) (st : Int32 × Int32) : Int32 × Int32 := match st with | (even, odd) => (((even ||| (s_X0_ifsUnder n hd fi even on)) ||| (s_X0_unlessUnder n hd un odd on)), (odd ||| ((s_X0_ifsUnder n hd fi odd on) ||| (s_X0_unlessUnder n hd un even on))))
def s_X0_isTangled (n : Nat) (hd : Nat → Int32) (fi : Nat → Int32) (un : Nat → Int32) (a : Int32) (on : Int32) : Int32 := (match itr (f_X0_isTangled_10 n hd fi un on) ((1 <<< (a &&& 31)), 0) 16 with | (even, odd) => (if (s_X2_bitOf odd a) = 1 then 1 else 0))
set_option maxHeartbeats 4000000 in
set_option maxRecDepth 100000 in
theorem c_X0_isTangled (l : Launch) (D : va_G) (a0 : Nat) (a1 : Nat) (a2 : Nat) (a3 : Nat) (b1 : ClassId) (b2 : ClassId) (b3 : ClassId) (n : Nat) (may : Int32) (hd : Nat → Int32) (fi : Nat → Int32) (un : Nat → Int32) (a : Int32) (on : Int32) (hn : n ≤ 10) (sz : Nat) : Met l yX0_isTangled wsX0_isTangled ({ frames := 3, cells := 0, slots := 0, locals := 68 }) (va_Pc [.ref a0, .int a, .int on] (cPre D (tB a0 a1 a2 a3 b1 b2 b3) (wB a0 a1 a2 a3 b1 b2 b3 (nI n) may hd fi un) sz)) (va_Qi (fun r (_ : Unit) => r = s_X0_isTangled n hd fi un a on) (fun _ _ => True) (fun q => sz ≤ q)) 0 0 (fun q => sz ≤ q) := by
  refine Met.ofW (cc := cX0_isTangled) (maxL := 7) (ret := (some .boolean)) (by decide) rfl ?_
  intro p e s m args below meth c s₁ B hml hv
  obtain ⟨rfl, hsz, hP, hK, hD, hN⟩ := hv
  have hx := B.exec
  have hb := B.bytes
  have hr := B.returns
  have hts := atoms_spec (ws := wsX0_isTangled) B.pre
  have hown : s.vm.findClass RX0 = some m.cls := findClass_of_methodNamed B.named
  have hlocks := B.notSynchronized
  subst hsz
  obtain ⟨A, hAe⟩ : ∃ A : Nat → Prop, A = (fun q : Nat => s.heap.size ≤ q) := ⟨_, rfl⟩
  have hA : ∀ q : Nat, s.heap.size ≤ q → A q := fun q h => by rw [hAe]; exact h
  have hS : va_S A s.heap s.heap [] := va_S.rf
  subst hAe
  have hl := lv_entry ([.ref a0, .int a, .int on]) (n := 7) (Nat.le_of_ble_eq_true rfl)
  rw [lg_entry_eq]
  generalize (lg_sl ([.ref a0, .int a, .int on]) ++ List.replicate (7 - (lg_sl ([.ref a0, .int a, .int on])).length) Slot.unset).toArray = ls at hl ⊢
  replace hl : lv_has ls 7 [(0, .ref a0), (1, .int a), (2, .int on)] := hl
  have hKe := hK.sub (tys' := []) [] rfl
  refine lv_iconst (v := 1) hx hb dX0_isTangled_0 (by decide) ?_
  refine lv_iload_n hx hb dX0_isTangled_1 rfl (lv_at hl 1 rfl) ?_
  refine lv_ishl hx hb dX0_isTangled_2 ?_
  refine lv_istore_n (lv' := [(3, .int (1 <<< (a &&& 31))), (0, .ref a0), (1, .int a), (2, .int on)]) hx hb dX0_isTangled_3 rfl hl (by decide) rfl (fun ls hl => ?_)
  refine lv_iconst (v := 0) hx hb dX0_isTangled_4 (by decide) ?_
  refine lv_istore (lv' := [(4, .int 0), (3, .int (1 <<< (a &&& 31))), (0, .ref a0), (1, .int a), (2, .int on)]) hx hb dX0_isTangled_5 hl (by decide) rfl (fun ls hl => ?_)
  refine lv_iconst (v := 0) hx hb dX0_isTangled_7 (by decide) ?_
  refine lv_istore (lv' := [(5, .int 0), (4, .int 0), (3, .int (1 <<< (a &&& 31))), (0, .ref a0), (1, .int a), (2, .int on)]) hx hb dX0_isTangled_8 hl (by decide) rfl (fun ls hl => ?_)
  have lp10_1 : ∀ (z_1 j10 : Nat), j10 + z_1 = 16 → ∀ (even : Int32) (odd : Int32), (even, odd) = itr (f_X0_isTangled_10 n hd fi un on) ((1 <<< (a &&& 31)), 0) j10 → ∀  (H : Heap) (locs : List Loc), va_P D vwCl (wB a0 a1 a2 a3 b1 b2 b3 (nI n) may hd fi un) H → va_S (fun q : Nat => s.heap.size ≤ q) s.heap H locs → ∀ ls : Array Slot, lv_has ls 7 [(0, .ref a0), (1, .int a), (2, .int on), (3, .int even), (4, .int odd), (5, .int (nI j10))] → W p l e (headSpec wsX0_isTangled ({ frames := 3, cells := 0, slots := 0, locals := 68 })).room s m ([.ref a0, .int a, .int on] : List Value).toArray below meth c H locs 0 0 (MQ below (va_Qi (fun r (_ : Unit) => r = s_X0_isTangled n hd fi un a on) (fun _ _ => True) (fun q => s.heap.size ≤ q)) ([.ref a0, .int a, .int on] : List Value).toArray s 0 0 (fun q => s.heap.size ≤ q)) (F0 m 10 ls []) := by
    intro z_1
    induction z_1 with
    | zero =>
      intro j10 hj10 even odd he10   H locs hP hS ls hl
      obtain rfl : 16 = j10 := by omega
      refine lv_iload hx hb dX0_isTangled_10 (lv_at hl 5 rfl) ?_
      refine lv_bipush (v := 16) hx hb dX0_isTangled_12 (by decide) ?_
      refine lv_icmp_ge (tgt := 63) hx hb dX0_isTangled_14 (by decide) (fun _ => ?_) (fun hh_3 => absurd (nI_le (a := 16) (b := 16) (by omega) (by omega)) hh_3)
      refine lv_iload hx hb dX0_isTangled_63 (lv_at hl 4 rfl) ?_
      refine lv_iload_n hx hb dX0_isTangled_65 rfl (lv_at hl 1 rfl) ?_
      refine ro_i (D := D) (va_runSN (As := [.int odd, .int a]) (rest := []) ⟨hx, hb, hml, hown, hts⟩ (c_X2_bitOf l D odd a  _) ⟨(va_cnB 2 hts gX0_isTangled_X2_bitOf_n32 rfl rfl rfl (hN.nw 9 rfl) (hts (.initialized RX2) (by decide +kernel)) (by decide +kernel) ⟨Nat.le_of_ble_eq_true rfl, Nat.le_of_ble_eq_true rfl⟩), hts (.static yX2_bitOf) (by decide +kernel), trivial⟩ ⟨cPre.blind, cPre.mk vP0 hKe vD0 hN⟩ rfl rfl hl.1 rfl (lv_room (Nat.le_of_ble_eq_true rfl)) dX0_isTangled_66 ⟨Nat.zero_le _, Nat.zero_le _⟩) hS hA (fun H locs hkp0 hS => ?_)
      replace hP := hkp0 _ hP
      refine lv_iconst (v := 1) hx hb dX0_isTangled_69 (by decide) ?_
      refine lv_icmp_ne (tgt := 77) hx hb dX0_isTangled_70 (by decide) (fun c_70_4 => ?_) (fun c_70_4 => ?_)
      · refine lv_iconst (v := 0) hx hb dX0_isTangled_77 (by decide) ?_
        exact ro_zret hx hb hr hS hlocks (show s_X0_isTangled n hd fi un a on = 0 from by (unfold s_X0_isTangled; (try dsimp only); (try rw [← he10]); (try dsimp only); (try rw [if_neg c_70_4]); first | done | rfl)).symm (by decide +kernel) dX0_isTangled_78
      · refine lv_iconst (v := 1) hx hb dX0_isTangled_73 (by decide) ?_
        refine lv_goto (tgt := 78) hx hb dX0_isTangled_74 (by decide) ?_
        exact ro_zret hx hb hr hS hlocks (show s_X0_isTangled n hd fi un a on = 1 from by (unfold s_X0_isTangled; (try dsimp only); (try rw [← he10]); (try dsimp only); (try rw [if_pos c_70_4]); first | done | rfl)).symm (by decide +kernel) dX0_isTangled_78
    | succ z_1 ih10 =>
      intro j10 hj10 even odd he10   H locs hP hS ls hl
      refine lv_iload hx hb dX0_isTangled_10 (lv_at hl 5 rfl) ?_
      refine lv_bipush (v := 16) hx hb dX0_isTangled_12 (by decide) ?_
      refine lv_icmp_ge (tgt := 63) hx hb dX0_isTangled_14 (by decide) (fun hh_6 => absurd hh_6 (nI_ge (a := j10) (b := 16) (by omega) (by omega))) (fun _ => ?_)
      refine lv_iload_n hx hb dX0_isTangled_17 rfl (lv_at hl 3 rfl) ?_
      refine lv_aload_n hx hb dX0_isTangled_18 rfl (lv_at hl 0 rfl) ?_
      refine lv_iload_n hx hb dX0_isTangled_19 rfl (lv_at hl 3 rfl) ?_
      refine lv_iload_n hx hb dX0_isTangled_20 rfl (lv_at hl 2 rfl) ?_
      refine ro_i (D := D) (va_runV (As := [.int even, .int on]) (rest := [.int even]) ⟨hx, hb, hml, hown, hts⟩ (c_X0_ifsUnder l D a0 a1 a2 a3 b1 b2 b3 n may hd fi un even on (by first | assumption | omega) _) (cwV 2 hts gX0_isTangled_X0_ifsUnder rfl rfl rfl (by decide +kernel) ⟨Nat.le_of_ble_eq_true rfl, Nat.le_of_ble_eq_true rfl⟩) ⟨cPre.blind, va_recv hK hP (ci := 0) (q0 := 0) rfl rfl, cPre.mk hP hK hD hN⟩ rfl rfl hl.1 rfl (lv_room (Nat.le_of_ble_eq_true rfl)) dX0_isTangled_21 ⟨Nat.zero_le _, Nat.zero_le _⟩) hS hA (fun H locs hkp0 hS => ?_)
      replace hP := hkp0 _ hP
      refine lv_ior hx hb dX0_isTangled_24 ?_
      refine lv_aload_n hx hb dX0_isTangled_25 rfl (lv_at hl 0 rfl) ?_
      refine lv_iload hx hb dX0_isTangled_26 (lv_at hl 4 rfl) ?_
      refine lv_iload_n hx hb dX0_isTangled_28 rfl (lv_at hl 2 rfl) ?_
      refine ro_i (D := D) (va_runV (As := [.int odd, .int on]) (rest := [.int (even ||| (s_X0_ifsUnder n hd fi even on))]) ⟨hx, hb, hml, hown, hts⟩ (c_X0_unlessUnder l D a0 a1 a2 a3 b1 b2 b3 n may hd fi un odd on (by first | assumption | omega) _) (cwV 2 hts gX0_isTangled_X0_unlessUnder rfl rfl rfl (by decide +kernel) ⟨Nat.le_of_ble_eq_true rfl, Nat.le_of_ble_eq_true rfl⟩) ⟨cPre.blind, va_recv hK hP (ci := 0) (q0 := 0) rfl rfl, cPre.mk hP hK hD hN⟩ rfl rfl hl.1 rfl (lv_room (Nat.le_of_ble_eq_true rfl)) dX0_isTangled_29 ⟨Nat.zero_le _, Nat.zero_le _⟩) hS hA (fun H locs hkp0 hS => ?_)
      replace hP := hkp0 _ hP
      refine lv_ior hx hb dX0_isTangled_32 ?_
      refine lv_istore (lv' := [(6, .int ((even ||| (s_X0_ifsUnder n hd fi even on)) ||| (s_X0_unlessUnder n hd un odd on))), (0, .ref a0), (1, .int a), (2, .int on), (3, .int even), (4, .int odd), (5, .int (nI j10))]) hx hb dX0_isTangled_33 hl (by decide) rfl (fun ls hl => ?_)
      refine lv_iload hx hb dX0_isTangled_35 (lv_at hl 5 rfl) ?_
      refine lv_aload_n hx hb dX0_isTangled_37 rfl (lv_at hl 1 rfl) ?_
      refine lv_iload hx hb dX0_isTangled_38 (lv_at hl 5 rfl) ?_
      refine lv_iload_n hx hb dX0_isTangled_40 rfl (lv_at hl 3 rfl) ?_
      refine ro_i (D := D) (va_runV (As := [.int odd, .int on]) (rest := [.int odd]) ⟨hx, hb, hml, hown, hts⟩ (c_X0_ifsUnder l D a0 a1 a2 a3 b1 b2 b3 n may hd fi un odd on (by first | assumption | omega) _) (cwV 2 hts gX0_isTangled_X0_ifsUnder rfl rfl rfl (by decide +kernel) ⟨Nat.le_of_ble_eq_true rfl, Nat.le_of_ble_eq_true rfl⟩) ⟨cPre.blind, va_recv hK hP (ci := 0) (q0 := 0) rfl rfl, cPre.mk hP hK hD hN⟩ rfl rfl hl.1 rfl (lv_room (Nat.le_of_ble_eq_true rfl)) dX0_isTangled_41 ⟨Nat.zero_le _, Nat.zero_le _⟩) hS hA (fun H locs hkp0 hS => ?_)
      replace hP := hkp0 _ hP
      refine lv_aload_n hx hb dX0_isTangled_44 rfl (lv_at hl 1 rfl) ?_
      refine lv_iload_n hx hb dX0_isTangled_45 rfl (lv_at hl 4 rfl) ?_
      refine lv_iload_n hx hb dX0_isTangled_46 rfl (lv_at hl 3 rfl) ?_
      refine ro_i (D := D) (va_runV (As := [.int even, .int on]) (rest := [.int (s_X0_ifsUnder n hd fi odd on), .int odd]) ⟨hx, hb, hml, hown, hts⟩ (c_X0_unlessUnder l D a0 a1 a2 a3 b1 b2 b3 n may hd fi un even on (by first | assumption | omega) _) (cwV 2 hts gX0_isTangled_X0_unlessUnder rfl rfl rfl (by decide +kernel) ⟨Nat.le_of_ble_eq_true rfl, Nat.le_of_ble_eq_true rfl⟩) ⟨cPre.blind, va_recv hK hP (ci := 0) (q0 := 0) rfl rfl, cPre.mk hP hK hD hN⟩ rfl rfl hl.1 rfl (lv_room (Nat.le_of_ble_eq_true rfl)) dX0_isTangled_47 ⟨Nat.zero_le _, Nat.zero_le _⟩) hS hA (fun H locs hkp0 hS => ?_)
      replace hP := hkp0 _ hP
      refine lv_ior hx hb dX0_isTangled_50 ?_
      refine lv_ior hx hb dX0_isTangled_51 ?_
      refine lv_istore (lv' := [(4, .int (odd ||| ((s_X0_ifsUnder n hd fi odd on) ||| (s_X0_unlessUnder n hd un even on)))), (6, .int ((even ||| (s_X0_ifsUnder n hd fi even on)) ||| (s_X0_unlessUnder n hd un odd on))), (0, .ref a0), (1, .int a), (2, .int on), (3, .int even), (5, .int (nI j10))]) hx hb dX0_isTangled_52 hl (by decide) rfl (fun ls hl => ?_)
      refine lv_iload hx hb dX0_isTangled_54 (lv_at hl 1 rfl) ?_
      refine lv_istore_n (lv' := [(3, .int ((even ||| (s_X0_ifsUnder n hd fi even on)) ||| (s_X0_unlessUnder n hd un odd on))), (4, .int (odd ||| ((s_X0_ifsUnder n hd fi odd on) ||| (s_X0_unlessUnder n hd un even on)))), (6, .int ((even ||| (s_X0_ifsUnder n hd fi even on)) ||| (s_X0_unlessUnder n hd un odd on))), (0, .ref a0), (1, .int a), (2, .int on), (5, .int (nI j10))]) hx hb dX0_isTangled_56 rfl hl (by decide) rfl (fun ls hl => ?_)
      refine lv_iinc (v := nI (j10 + 1)) (lv' := [(5, .int (nI (j10 + 1))), (3, .int ((even ||| (s_X0_ifsUnder n hd fi even on)) ||| (s_X0_unlessUnder n hd un odd on))), (4, .int (odd ||| ((s_X0_ifsUnder n hd fi odd on) ||| (s_X0_unlessUnder n hd un even on)))), (6, .int ((even ||| (s_X0_ifsUnder n hd fi even on)) ||| (s_X0_unlessUnder n hd un odd on))), (0, .ref a0), (1, .int a), (2, .int on)]) hx hb dX0_isTangled_57 hl (k := 6) rfl (inc_nI j10) (by decide) rfl (fun ls hl => ?_)
      refine lv_goto (tgt := 10) hx hb dX0_isTangled_60 (by decide) ?_
      exact ih10 (j10 + 1) (by omega) ((even ||| (s_X0_ifsUnder n hd fi even on)) ||| (s_X0_unlessUnder n hd un odd on)) (odd ||| ((s_X0_ifsUnder n hd fi odd on) ||| (s_X0_unlessUnder n hd un even on))) (itr_step he10 (by (unfold f_X0_isTangled_10; (try dsimp only); first | done | rfl)))   _ _ hP hS _ (lv_sub hl [4, 5, 6, 1, 2, 0] rfl)
  exact lp10_1 16 0 (by omega) (1 <<< (a &&& 31)) 0 (itr_zero _ _).symm   _ _ hP hS _ (lv_sub hl [3, 4, 5, 2, 1, 0] rfl)

