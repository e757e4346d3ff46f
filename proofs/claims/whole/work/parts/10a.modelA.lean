def wM (h : Nat → Nat) (cA : Nat → ClassId) (rl : Int32) (hd : Nat → Int32) (fi : Nat → Int32) (un : Nat → Int32) (on : Int32) (may : Int32) (asd : Int32) (tx : Nat → Int32) (td : Int32) (kp : Nat → Int32) (ko : Nat → Int32) (ka : Nat → Int32) (tr : Int64) (pat : Int32) (pfr : Int32) (rhd : Nat → Int32) (rif : Nat → Int32) (rul : Nat → Int32) (prr : Int32) (prm : Int32) (rd : Nat → Int32) (bb : Nat → Int32) (nw : Nat → Int32) (ot : Nat → Int32) (ev : Nat → Int32) (od : Nat → Int32) : va_W := [((h 0), .inr (3, [.int rl, .ref (h 1), .ref (h 2), .ref (h 3), .int on, .int may, .int asd, .ref (h 4), .int td, .ref (h 5), .ref (h 6), .ref (h 7), .long tr, .int pat, .int pfr, .ref (h 8), .ref (h 9), .ref (h 10), .int prr, .int prm, .ref (h 11), .ref (h 12), .ref (h 13), .ref (h 14), .ref (h 15), .ref (h 16)])), ((h 1), .inl ((cA 1), 10, .inl hd)), ((h 2), .inl ((cA 2), 10, .inl fi)), ((h 3), .inl ((cA 3), 10, .inl un)), ((h 4), .inl ((cA 4), 300, .inl tx)), ((h 5), .inl ((cA 5), 2, .inl kp)), ((h 6), .inl ((cA 6), 2, .inl ko)), ((h 7), .inl ((cA 7), 2, .inl ka)), ((h 8), .inl ((cA 8), 10, .inl rhd)), ((h 9), .inl ((cA 9), 10, .inl rif)), ((h 10), .inl ((cA 10), 10, .inl rul)), ((h 11), .inl ((cA 11), 8, .inl rd)), ((h 12), .inl ((cA 12), 8, .inl bb)), ((h 13), .inl ((cA 13), 8, .inl nw)), ((h 14), .inl ((cA 14), 8, .inl ot)), ((h 15), .inl ((cA 15), 8, .inl ev)), ((h 16), .inl ((cA 16), 8, .inl od))]
def tM (h : Nat → Nat) (cA : Nat → ClassId) : List (ClassId × FieldType) := [((cA 1), .int), ((cA 2), .int), ((cA 3), .int), ((cA 4), .int), ((cA 5), .boolean), ((cA 6), .int), ((cA 7), .int), ((cA 8), .int), ((cA 9), .int), ((cA 10), .int), ((cA 11), .int), ((cA 12), .int), ((cA 13), .int), ((cA 14), .int), ((cA 15), .int), ((cA 16), .int)]

def s_X3_in (v : Int64) (low : Int64) (high : Int64) : Int32 := (if (lg_cmp v low) < 0 then 0 else (if 0 < (lg_cmp v high) then 0 else 1))
set_option maxHeartbeats 4000000 in
set_option maxRecDepth 100000 in
theorem c_X3_in (l : Launch) (D : va_G) (v : Int64) (low : Int64) (high : Int64) (sz : Nat) : Met l yX3_in wsX3_in ({ frames := 0, cells := 0, slots := 0, locals := 0 }) (va_Pc [.long v, .long low, .long high] (cPre D ([] : List (ClassId × FieldType)) ([] : va_W) sz)) (va_Qi (fun r (_ : Unit) => r = s_X3_in v low high) (fun _ _ => True) (fun q => sz ≤ q)) 0 0 (fun q => sz ≤ q) := by
  refine Met.ofW (cc := cX3_in) (maxL := 6) (ret := (some .boolean)) (by decide) rfl ?_
  intro p e s m args below meth c s₁ B hml hv
  obtain ⟨rfl, hsz, hP, hK, hD, hN⟩ := hv
  have hx := B.exec
  have hb := B.bytes
  have hr := B.returns
  have hts := atoms_spec (ws := wsX3_in) B.pre
  have hown : s.vm.findClass RX3 = some m.cls := findClass_of_methodNamed B.named
  have hlocks := B.notSynchronized
  subst hsz
  obtain ⟨A, hAe⟩ : ∃ A : Nat → Prop, A = (fun q : Nat => s.heap.size ≤ q) := ⟨_, rfl⟩
  have hA : ∀ q : Nat, s.heap.size ≤ q → A q := fun q h => by rw [hAe]; exact h
  have hS : va_S A s.heap s.heap [] := va_S.rf
  subst hAe
  have hl := lv_entry ([.long v, .long low, .long high]) (n := 6) (Nat.le_of_ble_eq_true rfl)
  rw [lg_entry_eq]
  generalize (lg_sl ([.long v, .long low, .long high]) ++ List.replicate (6 - (lg_sl ([.long v, .long low, .long high])).length) Slot.unset).toArray = ls at hl ⊢
  replace hl : lv_has ls 6 [(0, .long v), (2, .long low), (4, .long high)] := hl
  have hKe := hK.sub (tys' := []) [] rfl
  refine lv_lload_n hx hb dX3_in_0 rfl (lv_at hl 0 rfl) ?_
  refine lv_lload_n hx hb dX3_in_1 rfl (lv_at hl 1 rfl) ?_
  refine W.lcmp hx hb dX3_in_2 ?_
  refine lv_if_lt (tgt := 17) hx hb dX3_in_3 (by decide) (fun c_3_1 => ?_) (fun c_3_1 => ?_)
  · refine lv_iconst (v := 0) hx hb dX3_in_17 (by decide) ?_
    exact ro_zret hx hb hr hS hlocks (show s_X3_in v low high = 0 from by (unfold s_X3_in; (try dsimp only); (try rw [if_pos c_3_1]); first | done | rfl)).symm (by decide +kernel) dX3_in_18
  · refine lv_lload_n hx hb dX3_in_6 rfl (lv_at hl 0 rfl) ?_
    refine lv_lload hx hb dX3_in_7 (lv_at hl 2 rfl) ?_
    refine W.lcmp hx hb dX3_in_9 ?_
    refine lv_if_gt (tgt := 17) hx hb dX3_in_10 (by decide) (fun c_10_2 => ?_) (fun c_10_2 => ?_)
    · refine lv_iconst (v := 0) hx hb dX3_in_17 (by decide) ?_
      exact ro_zret hx hb hr hS hlocks (show s_X3_in v low high = 0 from by (unfold s_X3_in; (try dsimp only); (try rw [if_neg c_3_1]); (try rw [if_pos c_10_2]); first | done | rfl)).symm (by decide +kernel) dX3_in_18
    · refine lv_iconst (v := 1) hx hb dX3_in_13 (by decide) ?_
      refine lv_goto (tgt := 18) hx hb dX3_in_14 (by decide) ?_
      exact ro_zret hx hb hr hS hlocks (show s_X3_in v low high = 1 from by (unfold s_X3_in; (try dsimp only); (try rw [if_neg c_3_1]); (try rw [if_neg c_10_2]); first | done | rfl)).symm (by decide +kernel) dX3_in_18

def s_X3_has (set : Int32) (k : Int32) : Int32 := (if ((set >>> (k &&& 31)) &&& 1) = 1 then 1 else 0)
set_option maxHeartbeats 4000000 in
set_option maxRecDepth 100000 in
theorem c_X3_has (l : Launch) (D : va_G) (set : Int32) (k : Int32) (sz : Nat) : Met l yX3_has wsX3_has ({ frames := 0, cells := 0, slots := 0, locals := 0 }) (va_Pc [.int set, .int k] (cPre D ([] : List (ClassId × FieldType)) ([] : va_W) sz)) (va_Qi (fun r (_ : Unit) => r = s_X3_has set k) (fun _ _ => True) (fun q => sz ≤ q)) 0 0 (fun q => sz ≤ q) := by
  refine Met.ofW (cc := cX3_has) (maxL := 2) (ret := (some .boolean)) (by decide) rfl ?_
  intro p e s m args below meth c s₁ B hml hv
  obtain ⟨rfl, hsz, hP, hK, hD, hN⟩ := hv
  have hx := B.exec
  have hb := B.bytes
  have hr := B.returns
  have hts := atoms_spec (ws := wsX3_has) B.pre
  have hown : s.vm.findClass RX3 = some m.cls := findClass_of_methodNamed B.named
  have hlocks := B.notSynchronized
  subst hsz
  obtain ⟨A, hAe⟩ : ∃ A : Nat → Prop, A = (fun q : Nat => s.heap.size ≤ q) := ⟨_, rfl⟩
  have hA : ∀ q : Nat, s.heap.size ≤ q → A q := fun q h => by rw [hAe]; exact h
  have hS : va_S A s.heap s.heap [] := va_S.rf
  subst hAe
  have hl := lv_entry ([.int set, .int k]) (n := 2) (Nat.le_of_ble_eq_true rfl)
  rw [lg_entry_eq]
  generalize (lg_sl ([.int set, .int k]) ++ List.replicate (2 - (lg_sl ([.int set, .int k])).length) Slot.unset).toArray = ls at hl ⊢
  replace hl : lv_has ls 2 [(0, .int set), (1, .int k)] := hl
  have hKe := hK.sub (tys' := []) [] rfl
  refine lv_iload_n hx hb dX3_has_0 rfl (lv_at hl 0 rfl) ?_
  refine lv_iload_n hx hb dX3_has_1 rfl (lv_at hl 1 rfl) ?_
  refine lv_ishr hx hb dX3_has_2 ?_
  refine lv_iconst (v := 1) hx hb dX3_has_3 (by decide) ?_
  refine lv_iand hx hb dX3_has_4 ?_
  refine lv_iconst (v := 1) hx hb dX3_has_5 (by decide) ?_
  refine lv_icmp_ne (tgt := 13) hx hb dX3_has_6 (by decide) (fun c_6_1 => ?_) (fun c_6_1 => ?_)
  · refine lv_iconst (v := 0) hx hb dX3_has_13 (by decide) ?_
    exact ro_zret hx hb hr hS hlocks (show s_X3_has set k = 0 from by (unfold s_X3_has; (try dsimp only); (try rw [if_neg c_6_1]); first | done | rfl)).symm (by decide +kernel) dX3_has_14
  · refine lv_iconst (v := 1) hx hb dX3_has_9 (by decide) ?_
    refine lv_goto (tgt := 14) hx hb dX3_has_10 (by decide) ?_
    exact ro_zret hx hb hr hS hlocks (show s_X3_has set k = 1 from by (unfold s_X3_has; (try dsimp only); (try rw [if_pos c_6_1]); first | done | rfl)).symm (by decide +kernel) dX3_has_14

def s_X3_isLetter (c0 : Int32) : Int32 := (if c0 < 97 then 0 else (if 122 < c0 then 0 else 1))
set_option maxHeartbeats 4000000 in
set_option maxRecDepth 100000 in
theorem c_X3_isLetter (l : Launch) (D : va_G) (c0 : Int32) (sz : Nat) : Met l yX3_isLetter wsX3_isLetter ({ frames := 0, cells := 0, slots := 0, locals := 0 }) (va_Pc [.int c0] (cPre D ([] : List (ClassId × FieldType)) ([] : va_W) sz)) (va_Qi (fun r (_ : Unit) => r = s_X3_isLetter c0) (fun _ _ => True) (fun q => sz ≤ q)) 0 0 (fun q => sz ≤ q) := by
  refine Met.ofW (cc := cX3_isLetter) (maxL := 1) (ret := (some .boolean)) (by decide) rfl ?_
  intro p e s m args below meth c s₁ B hml hv
  obtain ⟨rfl, hsz, hP, hK, hD, hN⟩ := hv
  have hx := B.exec
  have hb := B.bytes
  have hr := B.returns
  have hts := atoms_spec (ws := wsX3_isLetter) B.pre
  have hown : s.vm.findClass RX3 = some m.cls := findClass_of_methodNamed B.named
  have hlocks := B.notSynchronized
  subst hsz
  obtain ⟨A, hAe⟩ : ∃ A : Nat → Prop, A = (fun q : Nat => s.heap.size ≤ q) := ⟨_, rfl⟩
  have hA : ∀ q : Nat, s.heap.size ≤ q → A q := fun q h => by rw [hAe]; exact h
  have hS : va_S A s.heap s.heap [] := va_S.rf
  subst hAe
  have hl := lv_entry ([.int c0]) (n := 1) (Nat.le_of_ble_eq_true rfl)
  rw [lg_entry_eq]
  generalize (lg_sl ([.int c0]) ++ List.replicate (1 - (lg_sl ([.int c0])).length) Slot.unset).toArray = ls at hl ⊢
  replace hl : lv_has ls 1 [(0, .int c0)] := hl
  have hKe := hK.sub (tys' := []) [] rfl
  refine lv_iload_n hx hb dX3_isLetter_0 rfl (lv_at hl 0 rfl) ?_
  refine lv_bipush (v := 97) hx hb dX3_isLetter_1 (by decide) ?_
  refine lv_icmp_lt (tgt := 16) hx hb dX3_isLetter_3 (by decide) (fun c_3_1 => ?_) (fun c_3_1 => ?_)
  · refine lv_iconst (v := 0) hx hb dX3_isLetter_16 (by decide) ?_
    exact ro_zret hx hb hr hS hlocks (show s_X3_isLetter c0 = 0 from by (unfold s_X3_isLetter; (try dsimp only); (try rw [if_pos c_3_1]); first | done | rfl)).symm (by decide +kernel) dX3_isLetter_17
  · refine lv_iload_n hx hb dX3_isLetter_6 rfl (lv_at hl 0 rfl) ?_
    refine lv_bipush (v := 122) hx hb dX3_isLetter_7 (by decide) ?_
    refine lv_icmp_gt (tgt := 16) hx hb dX3_isLetter_9 (by decide) (fun c_9_2 => ?_) (fun c_9_2 => ?_)
    · refine lv_iconst (v := 0) hx hb dX3_isLetter_16 (by decide) ?_
      exact ro_zret hx hb hr hS hlocks (show s_X3_isLetter c0 = 0 from by (unfold s_X3_isLetter; (try dsimp only); (try rw [if_neg c_3_1]); (try rw [if_pos c_9_2]); first | done | rfl)).symm (by decide +kernel) dX3_isLetter_17
    · refine lv_iconst (v := 1) hx hb dX3_isLetter_12 (by decide) ?_
      refine lv_goto (tgt := 17) hx hb dX3_isLetter_13 (by decide) ?_
      exact ro_zret hx hb hr hS hlocks (show s_X3_isLetter c0 = 1 from by (unfold s_X3_isLetter; (try dsimp only); (try rw [if_neg c_3_1]); (try rw [if_neg c_9_2]); first | done | rfl)).symm (by decide +kernel) dX3_isLetter_17

def f_X3_ones_4 (set : Int32) (j4 : Nat) (st : Int32) : Int32 := match st with | cnt => (cnt + ((set >>> ((nI j4) &&& 31)) &&& 1))
def s_X3_ones (set : Int32) : Int32 := (match itr (f_X3_ones_4 set) 0 10 with | cnt => cnt)
set_option maxHeartbeats 4000000 in
set_option maxRecDepth 100000 in
theorem c_X3_ones (l : Launch) (D : va_G) (set : Int32) (sz : Nat) : Met l yX3_ones wsX3_ones ({ frames := 0, cells := 0, slots := 0, locals := 0 }) (va_Pc [.int set] (cPre D ([] : List (ClassId × FieldType)) ([] : va_W) sz)) (va_Qi (fun r (_ : Unit) => r = s_X3_ones set) (fun _ _ => True) (fun q => sz ≤ q)) 0 0 (fun q => sz ≤ q) := by
  refine Met.ofW (cc := cX3_ones) (maxL := 3) (ret := (some .int)) (by decide) rfl ?_
  intro p e s m args below meth c s₁ B hml hv
  obtain ⟨rfl, hsz, hP, hK, hD, hN⟩ := hv
  have hx := B.exec
  have hb := B.bytes
  have hr := B.returns
  have hts := atoms_spec (ws := wsX3_ones) B.pre
  have hown : s.vm.findClass RX3 = some m.cls := findClass_of_methodNamed B.named
  have hlocks := B.notSynchronized
  subst hsz
  obtain ⟨A, hAe⟩ : ∃ A : Nat → Prop, A = (fun q : Nat => s.heap.size ≤ q) := ⟨_, rfl⟩
  have hA : ∀ q : Nat, s.heap.size ≤ q → A q := fun q h => by rw [hAe]; exact h
  have hS : va_S A s.heap s.heap [] := va_S.rf
  subst hAe
  have hl := lv_entry ([.int set]) (n := 3) (Nat.le_of_ble_eq_true rfl)
  rw [lg_entry_eq]
  generalize (lg_sl ([.int set]) ++ List.replicate (3 - (lg_sl ([.int set])).length) Slot.unset).toArray = ls at hl ⊢
  replace hl : lv_has ls 3 [(0, .int set)] := hl
  have hKe := hK.sub (tys' := []) [] rfl
  refine lv_iconst (v := 0) hx hb dX3_ones_0 (by decide) ?_
  refine lv_istore_n (lv' := [(1, .int 0), (0, .int set)]) hx hb dX3_ones_1 rfl hl (by decide) rfl (fun ls hl => ?_)
  refine lv_iconst (v := 0) hx hb dX3_ones_2 (by decide) ?_
  refine lv_istore_n (lv' := [(2, .int 0), (1, .int 0), (0, .int set)]) hx hb dX3_ones_3 rfl hl (by decide) rfl (fun ls hl => ?_)
  have lp4_1 : ∀ (z_1 j4 : Nat), j4 + z_1 = 10 → ∀ (cnt : Int32), cnt = itr (f_X3_ones_4 set) 0 j4 → ∀  (H : Heap) (locs : List Loc), va_P D vwCl ([] : va_W) H → va_S (fun q : Nat => s.heap.size ≤ q) s.heap H locs → ∀ ls : Array Slot, lv_has ls 3 [(0, .int set), (1, .int cnt), (2, .int (nI j4))] → W p l e (headSpec wsX3_ones ({ frames := 0, cells := 0, slots := 0, locals := 0 })).room s m ([.int set] : List Value).toArray below meth c H locs 0 0 (MQ below (va_Qi (fun r (_ : Unit) => r = s_X3_ones set) (fun _ _ => True) (fun q => s.heap.size ≤ q)) ([.int set] : List Value).toArray s 0 0 (fun q => s.heap.size ≤ q)) (F0 m 4 ls []) := by
    intro z_1
    induction z_1 with
    | zero =>
      intro j4 hj4 cnt he4   H locs hP hS ls hl
      obtain rfl : 10 = j4 := by omega
      refine lv_iload_n hx hb dX3_ones_4 rfl (lv_at hl 2 rfl) ?_
      refine lv_bipush (v := 10) hx hb dX3_ones_5 (by decide) ?_
      refine lv_icmp_ge (tgt := 24) hx hb dX3_ones_7 (by decide) (fun _ => ?_) (fun hh_3 => absurd (nI_le (a := 10) (b := 10) (by omega) (by omega)) hh_3)
      refine lv_iload_n hx hb dX3_ones_24 rfl (lv_at hl 1 rfl) ?_
      exact ro_iret hx hb hr hS hlocks (show s_X3_ones set = cnt from by (unfold s_X3_ones; (try dsimp only); (try rw [← he4]); (try dsimp only); first | done | rfl)).symm dX3_ones_25
    | succ z_1 ih4 =>
      intro j4 hj4 cnt he4   H locs hP hS ls hl
      refine lv_iload_n hx hb dX3_ones_4 rfl (lv_at hl 2 rfl) ?_
      refine lv_bipush (v := 10) hx hb dX3_ones_5 (by decide) ?_
      refine lv_icmp_ge (tgt := 24) hx hb dX3_ones_7 (by decide) (fun hh_5 => absurd hh_5 (nI_ge (a := j4) (b := 10) (by omega) (by omega))) (fun _ => ?_)
      refine lv_iload_n hx hb dX3_ones_10 rfl (lv_at hl 1 rfl) ?_
      refine lv_iload_n hx hb dX3_ones_11 rfl (lv_at hl 0 rfl) ?_
      refine lv_iload_n hx hb dX3_ones_12 rfl (lv_at hl 2 rfl) ?_
      refine lv_ishr hx hb dX3_ones_13 ?_
      refine lv_iconst (v := 1) hx hb dX3_ones_14 (by decide) ?_
      refine lv_iand hx hb dX3_ones_15 ?_
      refine lv_iadd hx hb dX3_ones_16 ?_
      refine lv_istore_n (lv' := [(1, .int (cnt + ((set >>> ((nI j4) &&& 31)) &&& 1))), (0, .int set), (2, .int (nI j4))]) hx hb dX3_ones_17 rfl hl (by decide) rfl (fun ls hl => ?_)
      refine lv_iinc (v := nI (j4 + 1)) (lv' := [(2, .int (nI (j4 + 1))), (1, .int (cnt + ((set >>> ((nI j4) &&& 31)) &&& 1))), (0, .int set)]) hx hb dX3_ones_18 hl (k := 2) rfl (inc_nI j4) (by decide) rfl (fun ls hl => ?_)
      refine lv_goto (tgt := 4) hx hb dX3_ones_21 (by decide) ?_
      exact ih4 (j4 + 1) (by omega) (cnt + ((set >>> ((nI j4) &&& 31)) &&& 1)) (itr_step he4 (by (unfold f_X3_ones_4; (try dsimp only); first | done | rfl)))   _ _ hP hS _ (lv_sub hl [2, 1, 0] rfl)
  exact lp4_1 10 0 (by omega) 0 (itr_zero _ _).symm   _ _ hP hS _ (lv_sub hl [2, 1, 0] rfl)

