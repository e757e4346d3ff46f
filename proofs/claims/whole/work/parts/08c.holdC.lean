
def s_X2_turn (n : Nat) (on : Int32) (k : Int32) (v1 : Int32) : Int32 × Int32 := (if (s_X2_isRule n k) = 0 then ((-1), on) else (if (s_X2_isBit v1) = 0 then ((-1), on) else ((s_X2_bitOf on k), (s_X2_withBit on k v1))))
set_option maxHeartbeats 4000000 in
set_option maxRecDepth 100000 in
theorem c_X2_turn (l : Launch) (D : va_G) (h : Nat → Nat) (cA : Nat → ClassId) (n : Nat) (by_ : Nat → Int32) (ln : Int32) (pl : Int32) (tk : Int32) (tp : Int32) (may : Int32) (hd : Nat → Int32) (fi : Nat → Int32) (un : Nat → Int32) (sz2 : Int32) (may2 : Int32) (hd2 : Nat → Int32) (fi2 : Nat → Int32) (un2 : Nat → Int32) (on : Int32) (asd : Int32) (io : Nat → Int32) (ia : Nat → Int32) (kept : Int32) (tr : Int64) (k : Int32) (v1 : Int32) (hn : n ≤ 10) (sz : Nat) : Met l yX2_turn wsX2_turn ({ frames := 1, cells := 0, slots := 0, locals := 22 }) (va_Pc [.ref (h 0), .int k, .int v1] (cPre D (tX h cA) (wX h cA by_ ln pl tk tp (nI n) may hd fi un sz2 may2 hd2 fi2 un2 on asd io ia kept tr) sz)) (va_Qi (fun (r : Int32) (u : Int32) => (r, u) = s_X2_turn n on k v1) (rwB D (fun u : Int32 => (wX h cA by_ ln pl tk tp (nI n) may hd fi un sz2 may2 hd2 fi2 un2 u asd io ia kept tr)) (va_A (wX h cA by_ ln pl tk tp (nI n) may hd fi un sz2 may2 hd2 fi2 un2 on asd io ia kept tr) sz)) (va_A (wX h cA by_ ln pl tk tp (nI n) may hd fi un sz2 may2 hd2 fi2 un2 on asd io ia kept tr) sz)) 0 0 (va_A (wX h cA by_ ln pl tk tp (nI n) may hd fi un sz2 may2 hd2 fi2 un2 on asd io ia kept tr) sz) := by
  refine Met.ofW (cc := cX2_turn) (maxL := 4) (ret := (some .int)) (by decide) rfl ?_
  intro p e s m args below meth c s₁ B hml hv
  obtain ⟨rfl, hsz, hP, hK, hD, hN⟩ := hv
  have hx := B.exec
  have hb := B.bytes
  have hr := B.returns
  have hts := atoms_spec (ws := wsX2_turn) B.pre
  have hown : s.vm.findClass RX2 = some m.cls := findClass_of_methodNamed B.named
  have hlocks := B.notSynchronized
  have hinX2 : ∀ w ∈ wsX20, w ∈ wsX2_turn := fun w h => List.mem_cons_of_mem _ (List.mem_append_left _ (List.mem_append_right _ h))
  subst hsz
  replace hD := hD.self (sz := s.heap.size)
  generalize hAe : va_A (wX h cA by_ ln pl tk tp (nI n) may hd fi un sz2 may2 hd2 fi2 un2 on asd io ia kept tr) s.heap.size = A at hD ⊢
  have hA : ∀ q : Nat, s.heap.size ≤ q → A q := fun q h => by rw [← hAe]; exact Or.inr h
  have hS : va_S A s.heap s.heap [] := va_S.rf
  have hl := lv_entry ([.ref (h 0), .int k, .int v1]) (n := 4) (Nat.le_of_ble_eq_true rfl)
  rw [lg_entry_eq]
  generalize (lg_sl ([.ref (h 0), .int k, .int v1]) ++ List.replicate (4 - (lg_sl ([.ref (h 0), .int k, .int v1])).length) Slot.unset).toArray = ls at hl ⊢
  replace hl : lv_has ls 4 [(0, .ref (h 0)), (1, .int k), (2, .int v1)] := hl
  have hKe := hK.sub (tys' := []) [] rfl
  refine lv_aload_n hx hb dX2_turn_0 rfl (lv_at hl 0 rfl) ?_
  refine lv_iload_n hx hb dX2_turn_1 rfl (lv_at hl 1 rfl) ?_
  refine ro_i (D := D) (va_runV (As := [.int k]) (rest := []) ⟨hx, hb, hml, hown, hts⟩ (c_X2_isRule l D h cA n by_ ln pl tk tp may hd fi un sz2 may2 hd2 fi2 un2 on asd io ia kept tr k (by first | assumption | omega) _) (cwV 1 hts gX2_turn_X2_isRule rfl rfl rfl (by decide +kernel) ⟨Nat.le_of_ble_eq_true rfl, Nat.le_of_ble_eq_true rfl⟩) ⟨cPre.blind, va_recv hK hP (ci := 2) (q0 := 0) rfl rfl, cPre.mk hP hK hD hN⟩ rfl rfl hl.1 rfl (lv_room (Nat.le_of_ble_eq_true rfl)) dX2_turn_2 ⟨Nat.zero_le _, Nat.zero_le _⟩) hS hA (fun H locs hkp0 hS => ?_)
  replace hP := hkp0 _ hP
  refine lv_if_eq (tgt := 15) hx hb dX2_turn_5 (by decide) (fun c_5_1 => ?_) (fun c_5_1 => ?_)
  · refine lv_iconst (v := (-1)) hx hb dX2_turn_15 (by decide) ?_
    exact rw_iret hx hb hr hS hlocks on (show s_X2_turn n on k v1 = ((-1), on) from by (unfold s_X2_turn; (try dsimp only); (try rw [if_pos c_5_1]); first | done | rfl)).symm hP hD dX2_turn_16
  · refine lv_iload_n hx hb dX2_turn_8 rfl (lv_at hl 2 rfl) ?_
    refine ro_i (D := D) (va_runS (As := [.int v1]) (rest := []) ⟨hx, hb, hml, hown, hts⟩ (c_X2_isBit l D v1  _) (va_cwS 1 hts gX2_turn_X2_isBit rfl rfl rfl (by decide +kernel) ⟨Nat.le_of_ble_eq_true rfl, Nat.le_of_ble_eq_true rfl⟩) ⟨cPre.blind, cPre.mk vP0 hKe vD0 hN⟩ rfl rfl hl.1 rfl (lv_room (Nat.le_of_ble_eq_true rfl)) dX2_turn_9 ⟨Nat.zero_le _, Nat.zero_le _⟩) hS hA (fun H locs hkp0 hS => ?_)
    replace hP := hkp0 _ hP
    refine lv_if_ne (tgt := 17) hx hb dX2_turn_12 (by decide) (fun c_12_2 => ?_) (fun c_12_2 => ?_)
    · refine lv_aload_n hx hb dX2_turn_17 rfl (lv_at hl 0 rfl) ?_
      refine va_get (D := D) (ci := 2) (v := .int on) (C := RX2) (T := TX2) (N := 9) hx hb hts hinX2 hown hK hP 0 rfl rfl 3 (by decide) (hts (.fieldLink RX2 51 "HoldUnless" "on" "I") (by decide +kernel)) (fun _ h9 => h9) rfl dX2_turn_18 ?_
      refine lv_iload_n hx hb dX2_turn_21 rfl (lv_at hl 1 rfl) ?_
      refine ro_i (D := D) (va_runS (As := [.int on, .int k]) (rest := []) ⟨hx, hb, hml, hown, hts⟩ (c_X2_bitOf l D on k  _) (va_cwS 2 hts gX2_turn_X2_bitOf rfl rfl rfl (by decide +kernel) ⟨Nat.le_of_ble_eq_true rfl, Nat.le_of_ble_eq_true rfl⟩) ⟨cPre.blind, cPre.mk vP0 hKe vD0 hN⟩ rfl rfl hl.1 rfl (lv_room (Nat.le_of_ble_eq_true rfl)) dX2_turn_22 ⟨Nat.zero_le _, Nat.zero_le _⟩) hS hA (fun H locs hkp0 hS => ?_)
      replace hP := hkp0 _ hP
      refine lv_istore_n (lv' := [(3, .int (s_X2_bitOf on k)), (0, .ref (h 0)), (1, .int k), (2, .int v1)]) hx hb dX2_turn_25 rfl hl (by decide) rfl (fun ls hl => ?_)
      refine lv_aload_n hx hb dX2_turn_26 rfl (lv_at hl 1 rfl) ?_
      refine lv_aload_n hx hb dX2_turn_27 rfl (lv_at hl 1 rfl) ?_
      refine va_get (D := D) (ci := 2) (v := .int on) (C := RX2) (T := TX2) (N := 9) hx hb hts hinX2 hown hK hP 0 rfl rfl 3 (by decide) (hts (.fieldLink RX2 51 "HoldUnless" "on" "I") (by decide +kernel)) (fun _ h9 => h9) rfl dX2_turn_28 ?_
      refine lv_iload_n hx hb dX2_turn_31 rfl (lv_at hl 2 rfl) ?_
      refine lv_iload_n hx hb dX2_turn_32 rfl (lv_at hl 3 rfl) ?_
      refine ro_i (D := D) (va_runS (As := [.int on, .int k, .int v1]) (rest := [.ref (h 0)]) ⟨hx, hb, hml, hown, hts⟩ (c_X2_withBit l D on k v1  _) (va_cwS 3 hts gX2_turn_X2_withBit rfl rfl rfl (by decide +kernel) ⟨Nat.le_of_ble_eq_true rfl, Nat.le_of_ble_eq_true rfl⟩) ⟨cPre.blind, cPre.mk vP0 hKe vD0 hN⟩ rfl rfl hl.1 rfl (lv_room (Nat.le_of_ble_eq_true rfl)) dX2_turn_33 ⟨Nat.zero_le _, Nat.zero_le _⟩) hS hA (fun H locs hkp0 hS => ?_)
      replace hP := hkp0 _ hP
      refine va_put (D := D) (ci := 2) (v := .int (s_X2_withBit on k v1)) (ty := .int) (C := RX2) (T := TX2) (N := 9) hx hb hts hinX2 tyX2 tyX2_ok nmX2 hown hK hP hD hS 0 rfl rfl 3 (by decide) (hts (.fieldLink RX2 51 "HoldUnless" "on" "I") (by decide +kernel)) (fun _ h9 => h9) rfl (by decide +kernel) rfl rfl (Nat.le_of_ble_eq_true rfl) dX2_turn_36 (fun H locs hP hD hS => ?_)
      replace hP : va_P D vwCl (wX h cA by_ ln pl tk tp (nI n) may hd fi un sz2 may2 hd2 fi2 un2 (s_X2_withBit on k v1) asd io ia kept tr) H := hP
      replace hD : va_D A (wX h cA by_ ln pl tk tp (nI n) may hd fi un sz2 may2 hd2 fi2 un2 (s_X2_withBit on k v1) asd io ia kept tr) := hD
      refine lv_iload_n hx hb dX2_turn_39 rfl (lv_at hl 0 rfl) ?_
      exact rw_iret hx hb hr hS hlocks (s_X2_withBit on k v1) (show s_X2_turn n on k v1 = ((s_X2_bitOf on k), (s_X2_withBit on k v1)) from by (unfold s_X2_turn; (try dsimp only); (try rw [if_neg c_5_1]); (try rw [if_neg c_12_2]); first | done | rfl)).symm hP hD dX2_turn_40
    · refine lv_iconst (v := (-1)) hx hb dX2_turn_15 (by decide) ?_
      exact rw_iret hx hb hr hS hlocks on (show s_X2_turn n on k v1 = ((-1), on) from by (unfold s_X2_turn; (try dsimp only); (try rw [if_neg c_5_1]); (try rw [if_pos c_12_2]); first | done | rfl)).symm hP hD dX2_turn_16

def s_X2_assume (asd : Int32) (a : Int32) (v1 : Int32) : Int32 × Int32 := (if (s_X2_isSentence a) = 0 then ((-1), asd) else (if (s_X2_isBit v1) = 0 then ((-1), asd) else ((s_X2_bitOf asd a), (s_X2_withBit asd a v1))))
set_option maxHeartbeats 4000000 in
set_option maxRecDepth 100000 in
theorem c_X2_assume (l : Launch) (D : va_G) (h : Nat → Nat) (cA : Nat → ClassId) (n : Nat) (by_ : Nat → Int32) (ln : Int32) (pl : Int32) (tk : Int32) (tp : Int32) (may : Int32) (hd : Nat → Int32) (fi : Nat → Int32) (un : Nat → Int32) (sz2 : Int32) (may2 : Int32) (hd2 : Nat → Int32) (fi2 : Nat → Int32) (un2 : Nat → Int32) (on : Int32) (asd : Int32) (io : Nat → Int32) (ia : Nat → Int32) (kept : Int32) (tr : Int64) (a : Int32) (v1 : Int32) (hn : n ≤ 10) (sz : Nat) : Met l yX2_assume wsX2_assume ({ frames := 1, cells := 0, slots := 0, locals := 22 }) (va_Pc [.ref (h 0), .int a, .int v1] (cPre D (tX h cA) (wX h cA by_ ln pl tk tp (nI n) may hd fi un sz2 may2 hd2 fi2 un2 on asd io ia kept tr) sz)) (va_Qi (fun (r : Int32) (u : Int32) => (r, u) = s_X2_assume asd a v1) (rwB D (fun u : Int32 => (wX h cA by_ ln pl tk tp (nI n) may hd fi un sz2 may2 hd2 fi2 un2 on u io ia kept tr)) (va_A (wX h cA by_ ln pl tk tp (nI n) may hd fi un sz2 may2 hd2 fi2 un2 on asd io ia kept tr) sz)) (va_A (wX h cA by_ ln pl tk tp (nI n) may hd fi un sz2 may2 hd2 fi2 un2 on asd io ia kept tr) sz)) 0 0 (va_A (wX h cA by_ ln pl tk tp (nI n) may hd fi un sz2 may2 hd2 fi2 un2 on asd io ia kept tr) sz) := by
  refine Met.ofW (cc := cX2_assume) (maxL := 4) (ret := (some .int)) (by decide) rfl ?_
  intro p e s m args below meth c s₁ B hml hv
  obtain ⟨rfl, hsz, hP, hK, hD, hN⟩ := hv
  have hx := B.exec
  have hb := B.bytes
  have hr := B.returns
  have hts := atoms_spec (ws := wsX2_assume) B.pre
  have hown : s.vm.findClass RX2 = some m.cls := findClass_of_methodNamed B.named
  have hlocks := B.notSynchronized
  have hinX2 : ∀ w ∈ wsX20, w ∈ wsX2_assume := fun w h => List.mem_cons_of_mem _ (List.mem_append_right _ h)
  subst hsz
  replace hD := hD.self (sz := s.heap.size)
  generalize hAe : va_A (wX h cA by_ ln pl tk tp (nI n) may hd fi un sz2 may2 hd2 fi2 un2 on asd io ia kept tr) s.heap.size = A at hD ⊢
  have hA : ∀ q : Nat, s.heap.size ≤ q → A q := fun q h => by rw [← hAe]; exact Or.inr h
  have hS : va_S A s.heap s.heap [] := va_S.rf
  have hl := lv_entry ([.ref (h 0), .int a, .int v1]) (n := 4) (Nat.le_of_ble_eq_true rfl)
  rw [lg_entry_eq]
  generalize (lg_sl ([.ref (h 0), .int a, .int v1]) ++ List.replicate (4 - (lg_sl ([.ref (h 0), .int a, .int v1])).length) Slot.unset).toArray = ls at hl ⊢
  replace hl : lv_has ls 4 [(0, .ref (h 0)), (1, .int a), (2, .int v1)] := hl
  have hKe := hK.sub (tys' := []) [] rfl
  refine lv_iload_n hx hb dX2_assume_0 rfl (lv_at hl 1 rfl) ?_
  refine ro_i (D := D) (va_runS (As := [.int a]) (rest := []) ⟨hx, hb, hml, hown, hts⟩ (c_X2_isSentence l D a  _) (va_cwS 1 hts gX2_assume_X2_isSentence rfl rfl rfl (by decide +kernel) ⟨Nat.le_of_ble_eq_true rfl, Nat.le_of_ble_eq_true rfl⟩) ⟨cPre.blind, cPre.mk vP0 hKe vD0 hN⟩ rfl rfl hl.1 rfl (lv_room (Nat.le_of_ble_eq_true rfl)) dX2_assume_1 ⟨Nat.zero_le _, Nat.zero_le _⟩) hS hA (fun H locs hkp0 hS => ?_)
  replace hP := hkp0 _ hP
  refine lv_if_eq (tgt := 14) hx hb dX2_assume_4 (by decide) (fun c_4_1 => ?_) (fun c_4_1 => ?_)
  · refine lv_iconst (v := (-1)) hx hb dX2_assume_14 (by decide) ?_
    exact rw_iret hx hb hr hS hlocks asd (show s_X2_assume asd a v1 = ((-1), asd) from by (unfold s_X2_assume; (try dsimp only); (try rw [if_pos c_4_1]); first | done | rfl)).symm hP hD dX2_assume_15
  · refine lv_iload_n hx hb dX2_assume_7 rfl (lv_at hl 2 rfl) ?_
    refine ro_i (D := D) (va_runS (As := [.int v1]) (rest := []) ⟨hx, hb, hml, hown, hts⟩ (c_X2_isBit l D v1  _) (va_cwS 1 hts gX2_assume_X2_isBit rfl rfl rfl (by decide +kernel) ⟨Nat.le_of_ble_eq_true rfl, Nat.le_of_ble_eq_true rfl⟩) ⟨cPre.blind, cPre.mk vP0 hKe vD0 hN⟩ rfl rfl hl.1 rfl (lv_room (Nat.le_of_ble_eq_true rfl)) dX2_assume_8 ⟨Nat.zero_le _, Nat.zero_le _⟩) hS hA (fun H locs hkp0 hS => ?_)
    replace hP := hkp0 _ hP
    refine lv_if_ne (tgt := 16) hx hb dX2_assume_11 (by decide) (fun c_11_2 => ?_) (fun c_11_2 => ?_)
    · refine lv_aload_n hx hb dX2_assume_16 rfl (lv_at hl 0 rfl) ?_
      refine va_get (D := D) (ci := 2) (v := .int asd) (C := RX2) (T := TX2) (N := 9) hx hb hts hinX2 hown hK hP 0 rfl rfl 4 (by decide) (hts (.fieldLink RX2 54 "HoldUnless" "assumed" "I") (by decide +kernel)) (fun _ h9 => h9) rfl dX2_assume_17 ?_
      refine lv_iload_n hx hb dX2_assume_20 rfl (lv_at hl 1 rfl) ?_
      refine ro_i (D := D) (va_runS (As := [.int asd, .int a]) (rest := []) ⟨hx, hb, hml, hown, hts⟩ (c_X2_bitOf l D asd a  _) (va_cwS 2 hts gX2_assume_X2_bitOf rfl rfl rfl (by decide +kernel) ⟨Nat.le_of_ble_eq_true rfl, Nat.le_of_ble_eq_true rfl⟩) ⟨cPre.blind, cPre.mk vP0 hKe vD0 hN⟩ rfl rfl hl.1 rfl (lv_room (Nat.le_of_ble_eq_true rfl)) dX2_assume_21 ⟨Nat.zero_le _, Nat.zero_le _⟩) hS hA (fun H locs hkp0 hS => ?_)
      replace hP := hkp0 _ hP
      refine lv_istore_n (lv' := [(3, .int (s_X2_bitOf asd a)), (0, .ref (h 0)), (1, .int a), (2, .int v1)]) hx hb dX2_assume_24 rfl hl (by decide) rfl (fun ls hl => ?_)
      refine lv_aload_n hx hb dX2_assume_25 rfl (lv_at hl 1 rfl) ?_
      refine lv_aload_n hx hb dX2_assume_26 rfl (lv_at hl 1 rfl) ?_
      refine va_get (D := D) (ci := 2) (v := .int asd) (C := RX2) (T := TX2) (N := 9) hx hb hts hinX2 hown hK hP 0 rfl rfl 4 (by decide) (hts (.fieldLink RX2 54 "HoldUnless" "assumed" "I") (by decide +kernel)) (fun _ h9 => h9) rfl dX2_assume_27 ?_
      refine lv_iload_n hx hb dX2_assume_30 rfl (lv_at hl 2 rfl) ?_
      refine lv_iload_n hx hb dX2_assume_31 rfl (lv_at hl 3 rfl) ?_
      refine ro_i (D := D) (va_runS (As := [.int asd, .int a, .int v1]) (rest := [.ref (h 0)]) ⟨hx, hb, hml, hown, hts⟩ (c_X2_withBit l D asd a v1  _) (va_cwS 3 hts gX2_assume_X2_withBit rfl rfl rfl (by decide +kernel) ⟨Nat.le_of_ble_eq_true rfl, Nat.le_of_ble_eq_true rfl⟩) ⟨cPre.blind, cPre.mk vP0 hKe vD0 hN⟩ rfl rfl hl.1 rfl (lv_room (Nat.le_of_ble_eq_true rfl)) dX2_assume_32 ⟨Nat.zero_le _, Nat.zero_le _⟩) hS hA (fun H locs hkp0 hS => ?_)
      replace hP := hkp0 _ hP
      refine va_put (D := D) (ci := 2) (v := .int (s_X2_withBit asd a v1)) (ty := .int) (C := RX2) (T := TX2) (N := 9) hx hb hts hinX2 tyX2 tyX2_ok nmX2 hown hK hP hD hS 0 rfl rfl 4 (by decide) (hts (.fieldLink RX2 54 "HoldUnless" "assumed" "I") (by decide +kernel)) (fun _ h9 => h9) rfl (by decide +kernel) rfl rfl (Nat.le_of_ble_eq_true rfl) dX2_assume_35 (fun H locs hP hD hS => ?_)
      replace hP : va_P D vwCl (wX h cA by_ ln pl tk tp (nI n) may hd fi un sz2 may2 hd2 fi2 un2 on (s_X2_withBit asd a v1) io ia kept tr) H := hP
      replace hD : va_D A (wX h cA by_ ln pl tk tp (nI n) may hd fi un sz2 may2 hd2 fi2 un2 on (s_X2_withBit asd a v1) io ia kept tr) := hD
      refine lv_iload_n hx hb dX2_assume_38 rfl (lv_at hl 0 rfl) ?_
      exact rw_iret hx hb hr hS hlocks (s_X2_withBit asd a v1) (show s_X2_assume asd a v1 = ((s_X2_bitOf asd a), (s_X2_withBit asd a v1)) from by (unfold s_X2_assume; (try dsimp only); (try rw [if_neg c_4_1]); (try rw [if_neg c_11_2]); first | done | rfl)).symm hP hD dX2_assume_39
    · refine lv_iconst (v := (-1)) hx hb dX2_assume_14 (by decide) ?_
      exact rw_iret hx hb hr hS hlocks asd (show s_X2_assume asd a v1 = ((-1), asd) from by (unfold s_X2_assume; (try dsimp only); (try rw [if_neg c_4_1]); (try rw [if_pos c_11_2]); first | done | rfl)).symm hP hD dX2_assume_15

def s_X2_clear (ln : Int32) : Int32 × Int32 := (ln, 0)
set_option maxHeartbeats 4000000 in
set_option maxRecDepth 100000 in
theorem c_X2_clear (l : Launch) (D : va_G) (h : Nat → Nat) (cA : Nat → ClassId) (n : Nat) (by_ : Nat → Int32) (ln : Int32) (pl : Int32) (tk : Int32) (tp : Int32) (may : Int32) (hd : Nat → Int32) (fi : Nat → Int32) (un : Nat → Int32) (sz2 : Int32) (may2 : Int32) (hd2 : Nat → Int32) (fi2 : Nat → Int32) (un2 : Nat → Int32) (on : Int32) (asd : Int32) (io : Nat → Int32) (ia : Nat → Int32) (kept : Int32) (tr : Int64) (hn : n ≤ 10) (sz : Nat) : Met l yX2_clear wsX2_clear ({ frames := 0, cells := 0, slots := 0, locals := 0 }) (va_Pc [.ref (h 0)] (cPre D (tX h cA) (wX h cA by_ ln pl tk tp (nI n) may hd fi un sz2 may2 hd2 fi2 un2 on asd io ia kept tr) sz)) (va_Qi (fun (r : Int32) (u : Int32) => (r, u) = s_X2_clear ln) (rwB D (fun u : Int32 => (wX h cA by_ u pl tk tp (nI n) may hd fi un sz2 may2 hd2 fi2 un2 on asd io ia kept tr)) (va_A (wX h cA by_ ln pl tk tp (nI n) may hd fi un sz2 may2 hd2 fi2 un2 on asd io ia kept tr) sz)) (va_A (wX h cA by_ ln pl tk tp (nI n) may hd fi un sz2 may2 hd2 fi2 un2 on asd io ia kept tr) sz)) 0 0 (va_A (wX h cA by_ ln pl tk tp (nI n) may hd fi un sz2 may2 hd2 fi2 un2 on asd io ia kept tr) sz) := by
  refine Met.ofW (cc := cX2_clear) (maxL := 2) (ret := (some .int)) (by decide) rfl ?_
  intro p e s m args below meth c s₁ B hml hv
  obtain ⟨rfl, hsz, hP, hK, hD, hN⟩ := hv
  have hx := B.exec
  have hb := B.bytes
  have hr := B.returns
  have hts := atoms_spec (ws := wsX2_clear) B.pre
  have hown : s.vm.findClass RX2 = some m.cls := findClass_of_methodNamed B.named
  have hlocks := B.notSynchronized
  have hinX1 : ∀ w ∈ wsX10, w ∈ wsX2_clear := fun w h => List.mem_cons_of_mem _ (List.mem_append_right _ h)
  have hinX2 : ∀ w ∈ wsX20, w ∈ wsX2_clear := fun w h => List.mem_cons_of_mem _ (List.mem_append_left _ (List.mem_append_right _ h))
  subst hsz
  replace hD := hD.self (sz := s.heap.size)
  generalize hAe : va_A (wX h cA by_ ln pl tk tp (nI n) may hd fi un sz2 may2 hd2 fi2 un2 on asd io ia kept tr) s.heap.size = A at hD ⊢
  have hA : ∀ q : Nat, s.heap.size ≤ q → A q := fun q h => by rw [← hAe]; exact Or.inr h
  have hS : va_S A s.heap s.heap [] := va_S.rf
  have hl := lv_entry ([.ref (h 0)]) (n := 2) (Nat.le_of_ble_eq_true rfl)
  rw [lg_entry_eq]
  generalize (lg_sl ([.ref (h 0)]) ++ List.replicate (2 - (lg_sl ([.ref (h 0)])).length) Slot.unset).toArray = ls at hl ⊢
  replace hl : lv_has ls 2 [(0, .ref (h 0))] := hl
  have hKe := hK.sub (tys' := []) [] rfl
  refine lv_aload_n hx hb dX2_clear_0 rfl (lv_at hl 0 rfl) ?_
  refine va_get (D := D) (ci := 2) (v := .ref (h 1)) (C := RX2) (T := TX2) (N := 9) hx hb hts hinX2 hown hK hP 0 rfl rfl 0 (by decide) (hts (.fieldLink RX2 10 "HoldUnless" "text" "LHoldUnless$Text;") (by decide +kernel)) (fun _ h9 => h9) rfl dX2_clear_1 ?_
  refine va_getN (D := D) (ci := 1) (v := .int ln) (C := RX1) (T := TX1) (N := 5) hx hb hts hinX1 hown hK hP 1 rfl rfl 1 (by decide) (hN.use 16 rfl) (fun _ h9 => h9) rfl dX2_clear_4 ?_
  refine lv_istore_n (lv' := [(1, .int ln), (0, .ref (h 0))]) hx hb dX2_clear_7 rfl hl (by decide) rfl (fun ls hl => ?_)
  refine lv_aload_n hx hb dX2_clear_8 rfl (lv_at hl 1 rfl) ?_
  refine va_get (D := D) (ci := 2) (v := .ref (h 1)) (C := RX2) (T := TX2) (N := 9) hx hb hts hinX2 hown hK hP 0 rfl rfl 0 (by decide) (hts (.fieldLink RX2 10 "HoldUnless" "text" "LHoldUnless$Text;") (by decide +kernel)) (fun _ h9 => h9) rfl dX2_clear_9 ?_
  refine lv_iconst (v := 0) hx hb dX2_clear_12 (by decide) ?_
  refine va_putN (D := D) (ci := 1) (v := .int 0) (ty := .int) (C := RX1) (T := TX1) (N := 5) hx hb hts hinX1 tyX1 tyX1_ok nmX1 hown hK hP hD hS 1 rfl rfl 1 (by decide) (hN.use 16 rfl) (fun _ h9 => h9) rfl (by decide +kernel) rfl rfl (Nat.le_of_ble_eq_true rfl) dX2_clear_13 (fun H locs hP hD hS => ?_)
  replace hP : va_P D vwCl (wX h cA by_ 0 pl tk tp (nI n) may hd fi un sz2 may2 hd2 fi2 un2 on asd io ia kept tr) H := hP
  replace hD : va_D A (wX h cA by_ 0 pl tk tp (nI n) may hd fi un sz2 may2 hd2 fi2 un2 on asd io ia kept tr) := hD
  refine lv_iload_n hx hb dX2_clear_16 rfl (lv_at hl 0 rfl) ?_
  exact rw_iret hx hb hr hS hlocks 0 (show s_X2_clear ln = (ln, 0) from by (unfold s_X2_clear; (try dsimp only); first | done | rfl)).symm hP hD dX2_clear_17

def s_X2_keep (on : Int32) (asd : Int32) (io : Nat → Int32) (ia : Nat → Int32) (kept : Int32) (image : Int32) : Int32 × (Nat → Int32) × (Nat → Int32) × Int32 := (if (s_X2_isImage image) = 0 then ((-1), io, ia, kept) else ((s_J6_bitCount_0f7a4 on), (upd io image.toNatClampNeg on), (upd ia image.toNatClampNeg asd), (kept ||| (1 <<< (image &&& 31)))))
set_option maxHeartbeats 4000000 in
set_option maxRecDepth 100000 in
theorem c_X2_keep (l : Launch) (D : va_G) (h : Nat → Nat) (cA : Nat → ClassId) (n : Nat) (by_ : Nat → Int32) (ln : Int32) (pl : Int32) (tk : Int32) (tp : Int32) (may : Int32) (hd : Nat → Int32) (fi : Nat → Int32) (un : Nat → Int32) (sz2 : Int32) (may2 : Int32) (hd2 : Nat → Int32) (fi2 : Nat → Int32) (un2 : Nat → Int32) (on : Int32) (asd : Int32) (io : Nat → Int32) (ia : Nat → Int32) (kept : Int32) (tr : Int64) (image : Int32) (hn : n ≤ 10) (sz : Nat) : Met l yX2_keep wsX2_keep ({ frames := 1, cells := 0, slots := 0, locals := 20 }) (va_Pc [.ref (h 0), .int image] (cPre D (tX h cA) (wX h cA by_ ln pl tk tp (nI n) may hd fi un sz2 may2 hd2 fi2 un2 on asd io ia kept tr) sz)) (va_Qi (fun (r : Int32) (u : (Nat → Int32) × (Nat → Int32) × Int32) => (r, u.1, u.2.1, u.2.2) = s_X2_keep on asd io ia kept image) (rwB D (fun u : (Nat → Int32) × (Nat → Int32) × Int32 => (wX h cA by_ ln pl tk tp (nI n) may hd fi un sz2 may2 hd2 fi2 un2 on asd u.1 u.2.1 u.2.2 tr)) (va_A (wX h cA by_ ln pl tk tp (nI n) may hd fi un sz2 may2 hd2 fi2 un2 on asd io ia kept tr) sz)) (va_A (wX h cA by_ ln pl tk tp (nI n) may hd fi un sz2 may2 hd2 fi2 un2 on asd io ia kept tr) sz)) 0 0 (va_A (wX h cA by_ ln pl tk tp (nI n) may hd fi un sz2 may2 hd2 fi2 un2 on asd io ia kept tr) sz) := by
  refine Met.ofW (cc := cX2_keep) (maxL := 2) (ret := (some .int)) (by decide) rfl ?_
  intro p e s m args below meth c s₁ B hml hv
  obtain ⟨rfl, hsz, hP, hK, hD, hN⟩ := hv
  have hx := B.exec
  have hb := B.bytes
  have hr := B.returns
  have hts := atoms_spec (ws := wsX2_keep) B.pre
  have hown : s.vm.findClass RX2 = some m.cls := findClass_of_methodNamed B.named
  have hlocks := B.notSynchronized
  have hinX2 : ∀ w ∈ wsX20, w ∈ wsX2_keep := fun w h => List.mem_cons_of_mem _ (List.mem_append_right _ h)
  subst hsz
  replace hD := hD.self (sz := s.heap.size)
  generalize hAe : va_A (wX h cA by_ ln pl tk tp (nI n) may hd fi un sz2 may2 hd2 fi2 un2 on asd io ia kept tr) s.heap.size = A at hD ⊢
  have hA : ∀ q : Nat, s.heap.size ≤ q → A q := fun q h => by rw [← hAe]; exact Or.inr h
  have hS : va_S A s.heap s.heap [] := va_S.rf
  have hl := lv_entry ([.ref (h 0), .int image]) (n := 2) (Nat.le_of_ble_eq_true rfl)
  rw [lg_entry_eq]
  generalize (lg_sl ([.ref (h 0), .int image]) ++ List.replicate (2 - (lg_sl ([.ref (h 0), .int image])).length) Slot.unset).toArray = ls at hl ⊢
  replace hl : lv_has ls 2 [(0, .ref (h 0)), (1, .int image)] := hl
  have hKe := hK.sub (tys' := []) [] rfl
  refine lv_iload_n hx hb dX2_keep_0 rfl (lv_at hl 1 rfl) ?_
  refine ro_i (D := D) (va_runS (As := [.int image]) (rest := []) ⟨hx, hb, hml, hown, hts⟩ (c_X2_isImage l D image  _) (va_cwS 1 hts gX2_keep_X2_isImage rfl rfl rfl (by decide +kernel) ⟨Nat.le_of_ble_eq_true rfl, Nat.le_of_ble_eq_true rfl⟩) ⟨cPre.blind, cPre.mk vP0 hKe vD0 hN⟩ rfl rfl hl.1 rfl (lv_room (Nat.le_of_ble_eq_true rfl)) dX2_keep_1 ⟨Nat.zero_le _, Nat.zero_le _⟩) hS hA (fun H locs hkp0 hS => ?_)
  replace hP := hkp0 _ hP
  refine lv_if_ne (tgt := 9) hx hb dX2_keep_4 (by decide) (fun c_4_1 => ?_) (fun c_4_1 => ?_)
  · refine lv_aload_n hx hb dX2_keep_9 rfl (lv_at hl 0 rfl) ?_
    refine va_get (D := D) (ci := 2) (v := .ref (h 11)) (C := RX2) (T := TX2) (N := 9) hx hb hts hinX2 hown hK hP 0 rfl rfl 5 (by decide) (hts (.fieldLink RX2 26 "HoldUnless" "imageOn" "[I") (by decide +kernel)) (fun _ h9 => h9) rfl dX2_keep_10 ?_
    refine lv_iload_n hx hb dX2_keep_13 rfl (lv_at hl 1 rfl) ?_
    refine lv_aload_n hx hb dX2_keep_14 rfl (lv_at hl 0 rfl) ?_
    refine va_get (D := D) (ci := 2) (v := .int on) (C := RX2) (T := TX2) (N := 9) hx hb hts hinX2 hown hK hP 0 rfl rfl 3 (by decide) (hts (.fieldLink RX2 51 "HoldUnless" "on" "I") (by decide +kernel)) (fun _ h9 => h9) rfl dX2_keep_15 ?_
    refine va_iast hx hb hK hP hD hS 11 7 rfl rfl ((vp_image c_4_1)) dX2_keep_18 (fun H locs hP hD hS => ?_)
    replace hP : va_P D vwCl (wX h cA by_ ln pl tk tp (nI n) may hd fi un sz2 may2 hd2 fi2 un2 on asd (upd io image.toNatClampNeg on) ia kept tr) H := hP
    replace hD : va_D A (wX h cA by_ ln pl tk tp (nI n) may hd fi un sz2 may2 hd2 fi2 un2 on asd (upd io image.toNatClampNeg on) ia kept tr) := hD
    refine lv_aload_n hx hb dX2_keep_19 rfl (lv_at hl 0 rfl) ?_
    refine va_get (D := D) (ci := 2) (v := .ref (h 12)) (C := RX2) (T := TX2) (N := 9) hx hb hts hinX2 hown hK hP 0 rfl rfl 6 (by decide) (hts (.fieldLink RX2 30 "HoldUnless" "imageAssumed" "[I") (by decide +kernel)) (fun _ h9 => h9) rfl dX2_keep_20 ?_
    refine lv_iload_n hx hb dX2_keep_23 rfl (lv_at hl 1 rfl) ?_
    refine lv_aload_n hx hb dX2_keep_24 rfl (lv_at hl 0 rfl) ?_
    refine va_get (D := D) (ci := 2) (v := .int asd) (C := RX2) (T := TX2) (N := 9) hx hb hts hinX2 hown hK hP 0 rfl rfl 4 (by decide) (hts (.fieldLink RX2 54 "HoldUnless" "assumed" "I") (by decide +kernel)) (fun _ h9 => h9) rfl dX2_keep_25 ?_
    refine va_iast hx hb hK hP hD hS 12 8 rfl rfl ((vp_image c_4_1)) dX2_keep_28 (fun H locs hP hD hS => ?_)
    replace hP : va_P D vwCl (wX h cA by_ ln pl tk tp (nI n) may hd fi un sz2 may2 hd2 fi2 un2 on asd (upd io image.toNatClampNeg on) (upd ia image.toNatClampNeg asd) kept tr) H := hP
    replace hD : va_D A (wX h cA by_ ln pl tk tp (nI n) may hd fi un sz2 may2 hd2 fi2 un2 on asd (upd io image.toNatClampNeg on) (upd ia image.toNatClampNeg asd) kept tr) := hD
    refine lv_aload_n hx hb dX2_keep_29 rfl (lv_at hl 0 rfl) ?_
    refine lv_dup hx hb dX2_keep_30 rfl ?_
    refine va_get (D := D) (ci := 2) (v := .int kept) (C := RX2) (T := TX2) (N := 9) hx hb hts hinX2 hown hK hP 0 rfl rfl 7 (by decide) (hts (.fieldLink RX2 57 "HoldUnless" "imagesKept" "I") (by decide +kernel)) (fun _ h9 => h9) rfl dX2_keep_31 ?_
    refine lv_iconst (v := 1) hx hb dX2_keep_34 (by decide) ?_
    refine lv_iload_n hx hb dX2_keep_35 rfl (lv_at hl 1 rfl) ?_
    refine lv_ishl hx hb dX2_keep_36 ?_
    refine lv_ior hx hb dX2_keep_37 ?_
    refine va_put (D := D) (ci := 2) (v := .int (kept ||| (1 <<< (image &&& 31)))) (ty := .int) (C := RX2) (T := TX2) (N := 9) hx hb hts hinX2 tyX2 tyX2_ok nmX2 hown hK hP hD hS 0 rfl rfl 7 (by decide) (hts (.fieldLink RX2 57 "HoldUnless" "imagesKept" "I") (by decide +kernel)) (fun _ h9 => h9) rfl (by decide +kernel) rfl rfl (Nat.le_of_ble_eq_true rfl) dX2_keep_38 (fun H locs hP hD hS => ?_)
    replace hP : va_P D vwCl (wX h cA by_ ln pl tk tp (nI n) may hd fi un sz2 may2 hd2 fi2 un2 on asd (upd io image.toNatClampNeg on) (upd ia image.toNatClampNeg asd) (kept ||| (1 <<< (image &&& 31))) tr) H := hP
    replace hD : va_D A (wX h cA by_ ln pl tk tp (nI n) may hd fi un sz2 may2 hd2 fi2 un2 on asd (upd io image.toNatClampNeg on) (upd ia image.toNatClampNeg asd) (kept ||| (1 <<< (image &&& 31))) tr) := hD
    refine lv_aload_n hx hb dX2_keep_41 rfl (lv_at hl 0 rfl) ?_
    refine va_get (D := D) (ci := 2) (v := .int on) (C := RX2) (T := TX2) (N := 9) hx hb hts hinX2 hown hK hP 0 rfl rfl 3 (by decide) (hts (.fieldLink RX2 51 "HoldUnless" "on" "I") (by decide +kernel)) (fun _ h9 => h9) rfl dX2_keep_42 ?_
    refine ro_i (D := D) (va_runS (As := [.int on]) (rest := []) ⟨hx, hb, hml, hown, hts⟩ (c_J6_bitCount_0f7a4 l D on  _) (va_cwS 1 hts gX2_keep_J6_bitCount_0f7a4 rfl rfl rfl (by decide +kernel) ⟨Nat.le_of_ble_eq_true rfl, Nat.le_of_ble_eq_true rfl⟩) ⟨cPre.blind, cPre.mk vP0 hKe vD0 hN⟩ rfl rfl hl.1 rfl (lv_room (Nat.le_of_ble_eq_true rfl)) dX2_keep_45 ⟨Nat.zero_le _, Nat.zero_le _⟩) hS hA (fun H locs hkp0 hS => ?_)
    replace hP := hkp0 _ hP
    exact rw_iret hx hb hr hS hlocks ((upd io image.toNatClampNeg on), (upd ia image.toNatClampNeg asd), (kept ||| (1 <<< (image &&& 31)))) (show s_X2_keep on asd io ia kept image = ((s_J6_bitCount_0f7a4 on), (upd io image.toNatClampNeg on), (upd ia image.toNatClampNeg asd), (kept ||| (1 <<< (image &&& 31)))) from by (unfold s_X2_keep; (try dsimp only); (try rw [if_neg c_4_1]); first | done | rfl)).symm hP hD dX2_keep_48
  · refine lv_iconst (v := (-1)) hx hb dX2_keep_7 (by decide) ?_
    exact rw_iret hx hb hr hS hlocks (io, ia, kept) (show s_X2_keep on asd io ia kept image = ((-1), io, ia, kept) from by (unfold s_X2_keep; (try dsimp only); (try rw [if_pos c_4_1]); first | done | rfl)).symm hP hD dX2_keep_8

def s_X2_back (on : Int32) (asd : Int32) (io : Nat → Int32) (ia : Nat → Int32) (kept : Int32) (image : Int32) : Int32 × Int32 × Int32 := (if (s_X2_isImage image) = 0 then ((-1), on, asd) else (if (s_X2_bitOf kept image) = 0 then ((-2), on, asd) else ((s_J6_bitCount_0f7a4 (io image.toNatClampNeg)), (io image.toNatClampNeg), (ia image.toNatClampNeg))))
set_option maxHeartbeats 4000000 in
set_option maxRecDepth 100000 in
theorem c_X2_back (l : Launch) (D : va_G) (h : Nat → Nat) (cA : Nat → ClassId) (n : Nat) (by_ : Nat → Int32) (ln : Int32) (pl : Int32) (tk : Int32) (tp : Int32) (may : Int32) (hd : Nat → Int32) (fi : Nat → Int32) (un : Nat → Int32) (sz2 : Int32) (may2 : Int32) (hd2 : Nat → Int32) (fi2 : Nat → Int32) (un2 : Nat → Int32) (on : Int32) (asd : Int32) (io : Nat → Int32) (ia : Nat → Int32) (kept : Int32) (tr : Int64) (image : Int32) (hn : n ≤ 10) (sz : Nat) : Met l yX2_back wsX2_back ({ frames := 1, cells := 0, slots := 0, locals := 21 }) (va_Pc [.ref (h 0), .int image] (cPre D (tX h cA) (wX h cA by_ ln pl tk tp (nI n) may hd fi un sz2 may2 hd2 fi2 un2 on asd io ia kept tr) sz)) (va_Qi (fun (r : Int32) (u : Int32 × Int32) => (r, u.1, u.2) = s_X2_back on asd io ia kept image) (rwB D (fun u : Int32 × Int32 => (wX h cA by_ ln pl tk tp (nI n) may hd fi un sz2 may2 hd2 fi2 un2 u.1 u.2 io ia kept tr)) (va_A (wX h cA by_ ln pl tk tp (nI n) may hd fi un sz2 may2 hd2 fi2 un2 on asd io ia kept tr) sz)) (va_A (wX h cA by_ ln pl tk tp (nI n) may hd fi un sz2 may2 hd2 fi2 un2 on asd io ia kept tr) sz)) 0 0 (va_A (wX h cA by_ ln pl tk tp (nI n) may hd fi un sz2 may2 hd2 fi2 un2 on asd io ia kept tr) sz) := by
  refine Met.ofW (cc := cX2_back) (maxL := 2) (ret := (some .int)) (by decide) rfl ?_
  intro p e s m args below meth c s₁ B hml hv
  obtain ⟨rfl, hsz, hP, hK, hD, hN⟩ := hv
  have hx := B.exec
  have hb := B.bytes
  have hr := B.returns
  have hts := atoms_spec (ws := wsX2_back) B.pre
  have hown : s.vm.findClass RX2 = some m.cls := findClass_of_methodNamed B.named
  have hlocks := B.notSynchronized
  have hinX2 : ∀ w ∈ wsX20, w ∈ wsX2_back := fun w h => List.mem_cons_of_mem _ (List.mem_append_right _ h)
  subst hsz
  replace hD := hD.self (sz := s.heap.size)
  generalize hAe : va_A (wX h cA by_ ln pl tk tp (nI n) may hd fi un sz2 may2 hd2 fi2 un2 on asd io ia kept tr) s.heap.size = A at hD ⊢
  have hA : ∀ q : Nat, s.heap.size ≤ q → A q := fun q h => by rw [← hAe]; exact Or.inr h
  have hS : va_S A s.heap s.heap [] := va_S.rf
  have hl := lv_entry ([.ref (h 0), .int image]) (n := 2) (Nat.le_of_ble_eq_true rfl)
  rw [lg_entry_eq]
  generalize (lg_sl ([.ref (h 0), .int image]) ++ List.replicate (2 - (lg_sl ([.ref (h 0), .int image])).length) Slot.unset).toArray = ls at hl ⊢
  replace hl : lv_has ls 2 [(0, .ref (h 0)), (1, .int image)] := hl
  have hKe := hK.sub (tys' := []) [] rfl
  refine lv_iload_n hx hb dX2_back_0 rfl (lv_at hl 1 rfl) ?_
  refine ro_i (D := D) (va_runS (As := [.int image]) (rest := []) ⟨hx, hb, hml, hown, hts⟩ (c_X2_isImage l D image  _) (va_cwS 1 hts gX2_back_X2_isImage rfl rfl rfl (by decide +kernel) ⟨Nat.le_of_ble_eq_true rfl, Nat.le_of_ble_eq_true rfl⟩) ⟨cPre.blind, cPre.mk vP0 hKe vD0 hN⟩ rfl rfl hl.1 rfl (lv_room (Nat.le_of_ble_eq_true rfl)) dX2_back_1 ⟨Nat.zero_le _, Nat.zero_le _⟩) hS hA (fun H locs hkp0 hS => ?_)
  replace hP := hkp0 _ hP
  refine lv_if_ne (tgt := 9) hx hb dX2_back_4 (by decide) (fun c_4_1 => ?_) (fun c_4_1 => ?_)
  · refine lv_aload_n hx hb dX2_back_9 rfl (lv_at hl 0 rfl) ?_
    refine va_get (D := D) (ci := 2) (v := .int kept) (C := RX2) (T := TX2) (N := 9) hx hb hts hinX2 hown hK hP 0 rfl rfl 7 (by decide) (hts (.fieldLink RX2 57 "HoldUnless" "imagesKept" "I") (by decide +kernel)) (fun _ h9 => h9) rfl dX2_back_10 ?_
    refine lv_iload_n hx hb dX2_back_13 rfl (lv_at hl 1 rfl) ?_
    refine ro_i (D := D) (va_runS (As := [.int kept, .int image]) (rest := []) ⟨hx, hb, hml, hown, hts⟩ (c_X2_bitOf l D kept image  _) (va_cwS 2 hts gX2_back_X2_bitOf rfl rfl rfl (by decide +kernel) ⟨Nat.le_of_ble_eq_true rfl, Nat.le_of_ble_eq_true rfl⟩) ⟨cPre.blind, cPre.mk vP0 hKe vD0 hN⟩ rfl rfl hl.1 rfl (lv_room (Nat.le_of_ble_eq_true rfl)) dX2_back_14 ⟨Nat.zero_le _, Nat.zero_le _⟩) hS hA (fun H locs hkp0 hS => ?_)
    replace hP := hkp0 _ hP
    refine lv_if_ne (tgt := 23) hx hb dX2_back_17 (by decide) (fun c_17_2 => ?_) (fun c_17_2 => ?_)
    · refine lv_aload_n hx hb dX2_back_23 rfl (lv_at hl 0 rfl) ?_
      refine lv_aload_n hx hb dX2_back_24 rfl (lv_at hl 0 rfl) ?_
      refine va_get (D := D) (ci := 2) (v := .ref (h 11)) (C := RX2) (T := TX2) (N := 9) hx hb hts hinX2 hown hK hP 0 rfl rfl 5 (by decide) (hts (.fieldLink RX2 26 "HoldUnless" "imageOn" "[I") (by decide +kernel)) (fun _ h9 => h9) rfl dX2_back_25 ?_
      refine lv_iload_n hx hb dX2_back_28 rfl (lv_at hl 1 rfl) ?_
      refine va_iald hx hb hK hP 11 7 rfl rfl ((vp_image c_4_1)) dX2_back_29 ?_
      refine va_put (D := D) (ci := 2) (v := .int (io image.toNatClampNeg)) (ty := .int) (C := RX2) (T := TX2) (N := 9) hx hb hts hinX2 tyX2 tyX2_ok nmX2 hown hK hP hD hS 0 rfl rfl 3 (by decide) (hts (.fieldLink RX2 51 "HoldUnless" "on" "I") (by decide +kernel)) (fun _ h9 => h9) rfl (by decide +kernel) rfl rfl (Nat.le_of_ble_eq_true rfl) dX2_back_30 (fun H locs hP hD hS => ?_)
      replace hP : va_P D vwCl (wX h cA by_ ln pl tk tp (nI n) may hd fi un sz2 may2 hd2 fi2 un2 (io image.toNatClampNeg) asd io ia kept tr) H := hP
      replace hD : va_D A (wX h cA by_ ln pl tk tp (nI n) may hd fi un sz2 may2 hd2 fi2 un2 (io image.toNatClampNeg) asd io ia kept tr) := hD
      refine lv_aload_n hx hb dX2_back_33 rfl (lv_at hl 0 rfl) ?_
      refine lv_aload_n hx hb dX2_back_34 rfl (lv_at hl 0 rfl) ?_
      refine va_get (D := D) (ci := 2) (v := .ref (h 12)) (C := RX2) (T := TX2) (N := 9) hx hb hts hinX2 hown hK hP 0 rfl rfl 6 (by decide) (hts (.fieldLink RX2 30 "HoldUnless" "imageAssumed" "[I") (by decide +kernel)) (fun _ h9 => h9) rfl dX2_back_35 ?_
      refine lv_iload_n hx hb dX2_back_38 rfl (lv_at hl 1 rfl) ?_
      refine va_iald hx hb hK hP 12 8 rfl rfl ((vp_image c_4_1)) dX2_back_39 ?_
      refine va_put (D := D) (ci := 2) (v := .int (ia image.toNatClampNeg)) (ty := .int) (C := RX2) (T := TX2) (N := 9) hx hb hts hinX2 tyX2 tyX2_ok nmX2 hown hK hP hD hS 0 rfl rfl 4 (by decide) (hts (.fieldLink RX2 54 "HoldUnless" "assumed" "I") (by decide +kernel)) (fun _ h9 => h9) rfl (by decide +kernel) rfl rfl (Nat.le_of_ble_eq_true rfl) dX2_back_40 (fun H locs hP hD hS => ?_)
      replace hP : va_P D vwCl (wX h cA by_ ln pl tk tp (nI n) may hd fi un sz2 may2 hd2 fi2 un2 (io image.toNatClampNeg) (ia image.toNatClampNeg) io ia kept tr) H := hP
      replace hD : va_D A (wX h cA by_ ln pl tk tp (nI n) may hd fi un sz2 may2 hd2 fi2 un2 (io image.toNatClampNeg) (ia image.toNatClampNeg) io ia kept tr) := hD
      refine lv_aload_n hx hb dX2_back_43 rfl (lv_at hl 0 rfl) ?_
      refine va_get (D := D) (ci := 2) (v := .int (io image.toNatClampNeg)) (C := RX2) (T := TX2) (N := 9) hx hb hts hinX2 hown hK hP 0 rfl rfl 3 (by decide) (hts (.fieldLink RX2 51 "HoldUnless" "on" "I") (by decide +kernel)) (fun _ h9 => h9) rfl dX2_back_44 ?_
      refine ro_i (D := D) (va_runS (As := [.int (io image.toNatClampNeg)]) (rest := []) ⟨hx, hb, hml, hown, hts⟩ (c_J6_bitCount_0f7a4 l D (io image.toNatClampNeg)  _) (va_cwS 1 hts gX2_back_J6_bitCount_0f7a4 rfl rfl rfl (by decide +kernel) ⟨Nat.le_of_ble_eq_true rfl, Nat.le_of_ble_eq_true rfl⟩) ⟨cPre.blind, cPre.mk vP0 hKe vD0 hN⟩ rfl rfl hl.1 rfl (lv_room (Nat.le_of_ble_eq_true rfl)) dX2_back_47 ⟨Nat.zero_le _, Nat.zero_le _⟩) hS hA (fun H locs hkp0 hS => ?_)
      replace hP := hkp0 _ hP
      exact rw_iret hx hb hr hS hlocks ((io image.toNatClampNeg), (ia image.toNatClampNeg)) (show s_X2_back on asd io ia kept image = ((s_J6_bitCount_0f7a4 (io image.toNatClampNeg)), (io image.toNatClampNeg), (ia image.toNatClampNeg)) from by (unfold s_X2_back; (try dsimp only); (try rw [if_neg c_4_1]); (try rw [if_neg c_17_2]); first | done | rfl)).symm hP hD dX2_back_50
    · refine lv_bipush (v := (-2)) hx hb dX2_back_20 (by decide) ?_
      exact rw_iret hx hb hr hS hlocks (on, asd) (show s_X2_back on asd io ia kept image = ((-2), on, asd) from by (unfold s_X2_back; (try dsimp only); (try rw [if_neg c_4_1]); (try rw [if_pos c_17_2]); first | done | rfl)).symm hP hD dX2_back_22
  · refine lv_iconst (v := (-1)) hx hb dX2_back_7 (by decide) ?_
    exact rw_iret hx hb hr hS hlocks (on, asd) (show s_X2_back on asd io ia kept image = ((-1), on, asd) from by (unfold s_X2_back; (try dsimp only); (try rw [if_pos c_4_1]); first | done | rfl)).symm hP hD dX2_back_8

def s_X2_markOfRule (fi : Nat → Int32) (un : Nat → Int32) (tr : Int64) (k : Int32) : Int32 × Int64 := (((s_J6_bitCount_0f7a4 (fi k.toNatClampNeg)) + (s_J6_bitCount_0f7a4 (un k.toNatClampNeg))), (tr + 1))
set_option maxHeartbeats 4000000 in
set_option maxRecDepth 100000 in
theorem c_X2_markOfRule (l : Launch) (D : va_G) (h : Nat → Nat) (cA : Nat → ClassId) (n : Nat) (by_ : Nat → Int32) (ln : Int32) (pl : Int32) (tk : Int32) (tp : Int32) (may : Int32) (hd : Nat → Int32) (fi : Nat → Int32) (un : Nat → Int32) (sz2 : Int32) (may2 : Int32) (hd2 : Nat → Int32) (fi2 : Nat → Int32) (un2 : Nat → Int32) (on : Int32) (asd : Int32) (io : Nat → Int32) (ia : Nat → Int32) (kept : Int32) (tr : Int64) (k : Int32) (hn : n ≤ 10) (hk : vp_in k 10) (sz : Nat) : Met l yX2_markOfRule wsX2_markOfRule ({ frames := 1, cells := 0, slots := 0, locals := 20 }) (va_Pc [.ref (h 0), .int k] (cPre D (tX h cA) (wX h cA by_ ln pl tk tp (nI n) may hd fi un sz2 may2 hd2 fi2 un2 on asd io ia kept tr) sz)) (va_Qi (fun (r : Int32) (u : Int64) => (r, u) = s_X2_markOfRule fi un tr k) (rwB D (fun u : Int64 => (wX h cA by_ ln pl tk tp (nI n) may hd fi un sz2 may2 hd2 fi2 un2 on asd io ia kept u)) (va_A (wX h cA by_ ln pl tk tp (nI n) may hd fi un sz2 may2 hd2 fi2 un2 on asd io ia kept tr) sz)) (va_A (wX h cA by_ ln pl tk tp (nI n) may hd fi un sz2 may2 hd2 fi2 un2 on asd io ia kept tr) sz)) 0 0 (va_A (wX h cA by_ ln pl tk tp (nI n) may hd fi un sz2 may2 hd2 fi2 un2 on asd io ia kept tr) sz) := by
  refine Met.ofW (cc := cX2_markOfRule) (maxL := 2) (ret := (some .int)) (by decide) rfl ?_
  intro p e s m args below meth c s₁ B hml hv
  obtain ⟨rfl, hsz, hP, hK, hD, hN⟩ := hv
  have hx := B.exec
  have hb := B.bytes
  have hr := B.returns
  have hts := atoms_spec (ws := wsX2_markOfRule) B.pre
  have hown : s.vm.findClass RX2 = some m.cls := findClass_of_methodNamed B.named
  have hlocks := B.notSynchronized
  have hinX0 : ∀ w ∈ wsX00, w ∈ wsX2_markOfRule := fun w h => List.mem_cons_of_mem _ (List.mem_append_right _ h)
  have hinX2 : ∀ w ∈ wsX20, w ∈ wsX2_markOfRule := fun w h => List.mem_cons_of_mem _ (List.mem_append_left _ (List.mem_append_right _ h))
  subst hsz
  replace hD := hD.self (sz := s.heap.size)
  generalize hAe : va_A (wX h cA by_ ln pl tk tp (nI n) may hd fi un sz2 may2 hd2 fi2 un2 on asd io ia kept tr) s.heap.size = A at hD ⊢
  have hA : ∀ q : Nat, s.heap.size ≤ q → A q := fun q h => by rw [← hAe]; exact Or.inr h
  have hS : va_S A s.heap s.heap [] := va_S.rf
  have hl := lv_entry ([.ref (h 0), .int k]) (n := 2) (Nat.le_of_ble_eq_true rfl)
  rw [lg_entry_eq]
  generalize (lg_sl ([.ref (h 0), .int k]) ++ List.replicate (2 - (lg_sl ([.ref (h 0), .int k])).length) Slot.unset).toArray = ls at hl ⊢
  replace hl : lv_has ls 2 [(0, .ref (h 0)), (1, .int k)] := hl
  have hKe := hK.sub (tys' := []) [] rfl
  refine lv_aload_n hx hb dX2_markOfRule_0 rfl (lv_at hl 0 rfl) ?_
  refine lv_dup hx hb dX2_markOfRule_1 rfl ?_
  refine va_get (D := D) (ci := 2) (v := .long tr) (C := RX2) (T := TX2) (N := 9) hx hb hts hinX2 hown hK hP 0 rfl rfl 8 (by decide) (hts (.fieldLink RX2 157 "HoldUnless" "traceSum" "J") (by decide +kernel)) (fun _ h9 => h9) rfl dX2_markOfRule_2 ?_
  refine lv_lconst (v := 1) hx hb dX2_markOfRule_5 (by decide) ?_
  refine lv_ladd hx hb dX2_markOfRule_6 ?_
  refine va_put (D := D) (ci := 2) (v := .long (tr + 1)) (ty := .long) (C := RX2) (T := TX2) (N := 9) hx hb hts hinX2 tyX2 tyX2_ok nmX2 hown hK hP hD hS 0 rfl rfl 8 (by decide) (hts (.fieldLink RX2 157 "HoldUnless" "traceSum" "J") (by decide +kernel)) (fun _ h9 => h9) rfl (by decide +kernel) rfl rfl (Nat.le_of_ble_eq_true rfl) dX2_markOfRule_7 (fun H locs hP hD hS => ?_)
  replace hP : va_P D vwCl (wX h cA by_ ln pl tk tp (nI n) may hd fi un sz2 may2 hd2 fi2 un2 on asd io ia kept (tr + 1)) H := hP
  replace hD : va_D A (wX h cA by_ ln pl tk tp (nI n) may hd fi un sz2 may2 hd2 fi2 un2 on asd io ia kept (tr + 1)) := hD
  refine lv_aload_n hx hb dX2_markOfRule_10 rfl (lv_at hl 0 rfl) ?_
  refine va_get (D := D) (ci := 2) (v := .ref (h 3)) (C := RX2) (T := TX2) (N := 9) hx hb hts hinX2 hown hK hP 0 rfl rfl 1 (by decide) (hts (.fieldLink RX2 19 "HoldUnless" "book" "LHoldUnless$RuleBook;") (by decide +kernel)) (fun _ h9 => h9) rfl dX2_markOfRule_11 ?_
  refine va_getN (D := D) (ci := 0) (v := .ref (h 5)) (C := RX0) (T := TX0) (N := 5) hx hb hts hinX0 hown hK hP 3 rfl rfl 3 (by decide) (hN.use 22 rfl) (fun _ h9 => h9) rfl dX2_markOfRule_14 ?_
  refine lv_iload_n hx hb dX2_markOfRule_17 rfl (lv_at hl 1 rfl) ?_
  refine va_iald hx hb hK hP 5 2 rfl rfl (hk) dX2_markOfRule_18 ?_
  refine ro_i (D := D) (va_runS (As := [.int (fi k.toNatClampNeg)]) (rest := []) ⟨hx, hb, hml, hown, hts⟩ (c_J6_bitCount_0f7a4 l D (fi k.toNatClampNeg)  _) (va_cwS 1 hts gX2_markOfRule_J6_bitCount_0f7a4 rfl rfl rfl (by decide +kernel) ⟨Nat.le_of_ble_eq_true rfl, Nat.le_of_ble_eq_true rfl⟩) ⟨cPre.blind, cPre.mk vP0 hKe vD0 hN⟩ rfl rfl hl.1 rfl (lv_room (Nat.le_of_ble_eq_true rfl)) dX2_markOfRule_19 ⟨Nat.zero_le _, Nat.zero_le _⟩) hS hA (fun H locs hkp0 hS => ?_)
  replace hP := hkp0 _ hP
  refine lv_aload_n hx hb dX2_markOfRule_22 rfl (lv_at hl 0 rfl) ?_
  refine va_get (D := D) (ci := 2) (v := .ref (h 3)) (C := RX2) (T := TX2) (N := 9) hx hb hts hinX2 hown hK hP 0 rfl rfl 1 (by decide) (hts (.fieldLink RX2 19 "HoldUnless" "book" "LHoldUnless$RuleBook;") (by decide +kernel)) (fun _ h9 => h9) rfl dX2_markOfRule_23 ?_
  refine va_getN (D := D) (ci := 0) (v := .ref (h 6)) (C := RX0) (T := TX0) (N := 5) hx hb hts hinX0 hown hK hP 3 rfl rfl 4 (by decide) (hN.use 23 rfl) (fun _ h9 => h9) rfl dX2_markOfRule_26 ?_
  refine lv_iload_n hx hb dX2_markOfRule_29 rfl (lv_at hl 1 rfl) ?_
  refine va_iald hx hb hK hP 6 3 rfl rfl (hk) dX2_markOfRule_30 ?_
  refine ro_i (D := D) (va_runS (As := [.int (un k.toNatClampNeg)]) (rest := [.int (s_J6_bitCount_0f7a4 (fi k.toNatClampNeg))]) ⟨hx, hb, hml, hown, hts⟩ (c_J6_bitCount_0f7a4 l D (un k.toNatClampNeg)  _) (va_cwS 1 hts gX2_markOfRule_J6_bitCount_0f7a4 rfl rfl rfl (by decide +kernel) ⟨Nat.le_of_ble_eq_true rfl, Nat.le_of_ble_eq_true rfl⟩) ⟨cPre.blind, cPre.mk vP0 hKe vD0 hN⟩ rfl rfl hl.1 rfl (lv_room (Nat.le_of_ble_eq_true rfl)) dX2_markOfRule_31 ⟨Nat.zero_le _, Nat.zero_le _⟩) hS hA (fun H locs hkp0 hS => ?_)
  replace hP := hkp0 _ hP
  refine lv_iadd hx hb dX2_markOfRule_34 ?_
  exact rw_iret hx hb hr hS hlocks (tr + 1) (show s_X2_markOfRule fi un tr k = (((s_J6_bitCount_0f7a4 (fi k.toNatClampNeg)) + (s_J6_bitCount_0f7a4 (un k.toNatClampNeg))), (tr + 1)) from by (unfold s_X2_markOfRule; (try dsimp only); first | done | rfl)).symm hP hD dX2_markOfRule_35

def s_X2_markOfLaw (fi : Nat → Int32) (un : Nat → Int32) (tr : Int64) (k : Int32) : Int32 × Int64 := (match s_X2_markOfRule fi un (tr + 10) k with | (rv_2, trv_1) => ((rv_2 * 2), trv_1))
set_option maxHeartbeats 4000000 in
set_option maxRecDepth 100000 in
theorem c_X2_markOfLaw (l : Launch) (D : va_G) (h : Nat → Nat) (cA : Nat → ClassId) (n : Nat) (by_ : Nat → Int32) (ln : Int32) (pl : Int32) (tk : Int32) (tp : Int32) (may : Int32) (hd : Nat → Int32) (fi : Nat → Int32) (un : Nat → Int32) (sz2 : Int32) (may2 : Int32) (hd2 : Nat → Int32) (fi2 : Nat → Int32) (un2 : Nat → Int32) (on : Int32) (asd : Int32) (io : Nat → Int32) (ia : Nat → Int32) (kept : Int32) (tr : Int64) (k : Int32) (hn : n ≤ 10) (hk : vp_in k 10) (sz : Nat) : Met l yX2_markOfLaw wsX2_markOfLaw ({ frames := 2, cells := 0, slots := 0, locals := 41 }) (va_Pc [.ref (h 0), .int k] (cPre D (tX h cA) (wX h cA by_ ln pl tk tp (nI n) may hd fi un sz2 may2 hd2 fi2 un2 on asd io ia kept tr) sz)) (va_Qi (fun (r : Int32) (u : Int64) => (r, u) = s_X2_markOfLaw fi un tr k) (rwB D (fun u : Int64 => (wX h cA by_ ln pl tk tp (nI n) may hd fi un sz2 may2 hd2 fi2 un2 on asd io ia kept u)) (va_A (wX h cA by_ ln pl tk tp (nI n) may hd fi un sz2 may2 hd2 fi2 un2 on asd io ia kept tr) sz)) (va_A (wX h cA by_ ln pl tk tp (nI n) may hd fi un sz2 may2 hd2 fi2 un2 on asd io ia kept tr) sz)) 0 0 (va_A (wX h cA by_ ln pl tk tp (nI n) may hd fi un sz2 may2 hd2 fi2 un2 on asd io ia kept tr) sz) := by
  refine Met.ofW (cc := cX2_markOfLaw) (maxL := 2) (ret := (some .int)) (by decide) rfl ?_
  intro p e s m args below meth c s₁ B hml hv
  obtain ⟨rfl, hsz, hP, hK, hD, hN⟩ := hv
  have hx := B.exec
  have hb := B.bytes
  have hr := B.returns
  have hts := atoms_spec (ws := wsX2_markOfLaw) B.pre
  have hown : s.vm.findClass RX2 = some m.cls := findClass_of_methodNamed B.named
  have hlocks := B.notSynchronized
  have hinX2 : ∀ w ∈ wsX20, w ∈ wsX2_markOfLaw := fun w h => List.mem_cons_of_mem _ (List.mem_append_left _ (List.mem_append_right _ h))
  subst hsz
  replace hD := hD.self (sz := s.heap.size)
  generalize hAe : va_A (wX h cA by_ ln pl tk tp (nI n) may hd fi un sz2 may2 hd2 fi2 un2 on asd io ia kept tr) s.heap.size = A at hD ⊢
  have hA : ∀ q : Nat, s.heap.size ≤ q → A q := fun q h => by rw [← hAe]; exact Or.inr h
  have hS : va_S A s.heap s.heap [] := va_S.rf
  have hl := lv_entry ([.ref (h 0), .int k]) (n := 2) (Nat.le_of_ble_eq_true rfl)
  rw [lg_entry_eq]
  generalize (lg_sl ([.ref (h 0), .int k]) ++ List.replicate (2 - (lg_sl ([.ref (h 0), .int k])).length) Slot.unset).toArray = ls at hl ⊢
  replace hl : lv_has ls 2 [(0, .ref (h 0)), (1, .int k)] := hl
  have hKe := hK.sub (tys' := []) [] rfl
  refine lv_aload_n hx hb dX2_markOfLaw_0 rfl (lv_at hl 0 rfl) ?_
  refine lv_dup hx hb dX2_markOfLaw_1 rfl ?_
  refine va_get (D := D) (ci := 2) (v := .long tr) (C := RX2) (T := TX2) (N := 9) hx hb hts hinX2 hown hK hP 0 rfl rfl 8 (by decide) (hts (.fieldLink RX2 157 "HoldUnless" "traceSum" "J") (by decide +kernel)) (fun _ h9 => h9) rfl dX2_markOfLaw_2 ?_
  refine lv_ldc2 (v := 10) hx hb hown (hts (.constantLong RX2 161 (10)) (by decide +kernel)) dX2_markOfLaw_5 ?_
  refine lv_ladd hx hb dX2_markOfLaw_8 ?_
  refine va_put (D := D) (ci := 2) (v := .long (tr + 10)) (ty := .long) (C := RX2) (T := TX2) (N := 9) hx hb hts hinX2 tyX2 tyX2_ok nmX2 hown hK hP hD hS 0 rfl rfl 8 (by decide) (hts (.fieldLink RX2 157 "HoldUnless" "traceSum" "J") (by decide +kernel)) (fun _ h9 => h9) rfl (by decide +kernel) rfl rfl (Nat.le_of_ble_eq_true rfl) dX2_markOfLaw_9 (fun H locs hP hD hS => ?_)
  replace hP : va_P D vwCl (wX h cA by_ ln pl tk tp (nI n) may hd fi un sz2 may2 hd2 fi2 un2 on asd io ia kept (tr + 10)) H := hP
  replace hD : va_D A (wX h cA by_ ln pl tk tp (nI n) may hd fi un sz2 may2 hd2 fi2 un2 on asd io ia kept (tr + 10)) := hD
  refine lv_aload_n hx hb dX2_markOfLaw_12 rfl (lv_at hl 0 rfl) ?_
  refine lv_iload_n hx hb dX2_markOfLaw_13 rfl (lv_at hl 1 rfl) ?_
  have hFc := va_free (wc := (wX h cA by_ ln pl tk tp (nI n) may hd fi un sz2 may2 hd2 fi2 un2 on asd io ia kept (tr + 10))) hD hS hA [0, 1, 2, 3, 4, 5, 6, 7, 8, 9, 10, 11, 12] rfl
  refine rw_i (D := D) (wc := (wX h cA by_ ln pl tk tp (nI n) may hd fi un sz2 may2 hd2 fi2 un2 on asd io ia kept (tr + 10))) (va_runV (As := [.int k]) (rest := []) ⟨hx, hb, hml, hown, hts⟩ (c_X2_markOfRule l D h cA n by_ ln pl tk tp may hd fi un sz2 may2 hd2 fi2 un2 on asd io ia kept (tr + 10) k (by first | assumption | omega) (by first | assumption | omega) _) (cwV 1 hts gX2_markOfLaw_X2_markOfRule rfl rfl rfl (by decide +kernel) ⟨Nat.le_of_ble_eq_true rfl, Nat.le_of_ble_eq_true rfl⟩) ⟨cPre.blind, va_recv hK hP (ci := 2) (q0 := 0) rfl rfl, cPre.mk hP hK hD hN⟩ rfl rfl hl.1 rfl (lv_room (Nat.le_of_ble_eq_true rfl)) dX2_markOfLaw_14 ⟨Nat.zero_le _, Nat.zero_le _⟩) hS hFc (fun rv_2 u H1 locs hw_3 hP1 hD1 hk1 hS => ?_)
  obtain ⟨trv_1, rfl⟩ : ∃ y, y = u := ⟨_, rfl⟩
  try dsimp only at hw_3
  have hP : va_P D vwCl (wX h cA by_ ln pl tk tp (nI n) may hd fi un sz2 may2 hd2 fi2 un2 on asd io ia kept trv_1) H1 := hP1
  have hD : va_D A (wX h cA by_ ln pl tk tp (nI n) may hd fi un sz2 may2 hd2 fi2 un2 on asd io ia kept trv_1) := hD1.weaken (fun k q hk h => hFc _ h)
  clear hP1 hD1 hFc hk1
  generalize H1 = H at hP hS ⊢
  refine lv_iconst (v := 2) hx hb dX2_markOfLaw_17 (by decide) ?_
  refine lv_imul hx hb dX2_markOfLaw_18 ?_
  exact rw_iret hx hb hr hS hlocks trv_1 (show s_X2_markOfLaw fi un tr k = ((rv_2 * 2), trv_1) from by (unfold s_X2_markOfLaw; (try dsimp only); (try rw [← hw_3]); (try dsimp only); first | done | rfl)).symm hP hD dX2_markOfLaw_19

def s_X2_markOfHabit (fi : Nat → Int32) (un : Nat → Int32) (tr : Int64) (k : Int32) : Int32 × Int64 := (match s_X2_markOfRule fi un (tr + 100) k with | (rv_2, trv_1) => ((rv_2 - (s_J6_bitCount_0f7a4 (un k.toNatClampNeg))), trv_1))
set_option maxHeartbeats 4000000 in
set_option maxRecDepth 100000 in
theorem c_X2_markOfHabit (l : Launch) (D : va_G) (h : Nat → Nat) (cA : Nat → ClassId) (n : Nat) (by_ : Nat → Int32) (ln : Int32) (pl : Int32) (tk : Int32) (tp : Int32) (may : Int32) (hd : Nat → Int32) (fi : Nat → Int32) (un : Nat → Int32) (sz2 : Int32) (may2 : Int32) (hd2 : Nat → Int32) (fi2 : Nat → Int32) (un2 : Nat → Int32) (on : Int32) (asd : Int32) (io : Nat → Int32) (ia : Nat → Int32) (kept : Int32) (tr : Int64) (k : Int32) (hn : n ≤ 10) (hk : vp_in k 10) (sz : Nat) : Met l yX2_markOfHabit wsX2_markOfHabit ({ frames := 2, cells := 0, slots := 0, locals := 41 }) (va_Pc [.ref (h 0), .int k] (cPre D (tX h cA) (wX h cA by_ ln pl tk tp (nI n) may hd fi un sz2 may2 hd2 fi2 un2 on asd io ia kept tr) sz)) (va_Qi (fun (r : Int32) (u : Int64) => (r, u) = s_X2_markOfHabit fi un tr k) (rwB D (fun u : Int64 => (wX h cA by_ ln pl tk tp (nI n) may hd fi un sz2 may2 hd2 fi2 un2 on asd io ia kept u)) (va_A (wX h cA by_ ln pl tk tp (nI n) may hd fi un sz2 may2 hd2 fi2 un2 on asd io ia kept tr) sz)) (va_A (wX h cA by_ ln pl tk tp (nI n) may hd fi un sz2 may2 hd2 fi2 un2 on asd io ia kept tr) sz)) 0 0 (va_A (wX h cA by_ ln pl tk tp (nI n) may hd fi un sz2 may2 hd2 fi2 un2 on asd io ia kept tr) sz) := by
  refine Met.ofW (cc := cX2_markOfHabit) (maxL := 2) (ret := (some .int)) (by decide) rfl ?_
  intro p e s m args below meth c s₁ B hml hv
  obtain ⟨rfl, hsz, hP, hK, hD, hN⟩ := hv
  have hx := B.exec
  have hb := B.bytes
  have hr := B.returns
  have hts := atoms_spec (ws := wsX2_markOfHabit) B.pre
  have hown : s.vm.findClass RX2 = some m.cls := findClass_of_methodNamed B.named
  have hlocks := B.notSynchronized
  have hinX0 : ∀ w ∈ wsX00, w ∈ wsX2_markOfHabit := fun w h => List.mem_cons_of_mem _ (List.mem_append_right _ h)
  have hinX2 : ∀ w ∈ wsX20, w ∈ wsX2_markOfHabit := fun w h => List.mem_cons_of_mem _ (List.mem_append_left _ (List.mem_append_right _ h))
  subst hsz
  replace hD := hD.self (sz := s.heap.size)
  generalize hAe : va_A (wX h cA by_ ln pl tk tp (nI n) may hd fi un sz2 may2 hd2 fi2 un2 on asd io ia kept tr) s.heap.size = A at hD ⊢
  have hA : ∀ q : Nat, s.heap.size ≤ q → A q := fun q h => by rw [← hAe]; exact Or.inr h
  have hS : va_S A s.heap s.heap [] := va_S.rf
  have hl := lv_entry ([.ref (h 0), .int k]) (n := 2) (Nat.le_of_ble_eq_true rfl)
  rw [lg_entry_eq]
  generalize (lg_sl ([.ref (h 0), .int k]) ++ List.replicate (2 - (lg_sl ([.ref (h 0), .int k])).length) Slot.unset).toArray = ls at hl ⊢
  replace hl : lv_has ls 2 [(0, .ref (h 0)), (1, .int k)] := hl
  have hKe := hK.sub (tys' := []) [] rfl
  refine lv_aload_n hx hb dX2_markOfHabit_0 rfl (lv_at hl 0 rfl) ?_
  refine lv_dup hx hb dX2_markOfHabit_1 rfl ?_
  refine va_get (D := D) (ci := 2) (v := .long tr) (C := RX2) (T := TX2) (N := 9) hx hb hts hinX2 hown hK hP 0 rfl rfl 8 (by decide) (hts (.fieldLink RX2 157 "HoldUnless" "traceSum" "J") (by decide +kernel)) (fun _ h9 => h9) rfl dX2_markOfHabit_2 ?_
  refine lv_ldc2 (v := 100) hx hb hown (hts (.constantLong RX2 163 (100)) (by decide +kernel)) dX2_markOfHabit_5 ?_
  refine lv_ladd hx hb dX2_markOfHabit_8 ?_
  refine va_put (D := D) (ci := 2) (v := .long (tr + 100)) (ty := .long) (C := RX2) (T := TX2) (N := 9) hx hb hts hinX2 tyX2 tyX2_ok nmX2 hown hK hP hD hS 0 rfl rfl 8 (by decide) (hts (.fieldLink RX2 157 "HoldUnless" "traceSum" "J") (by decide +kernel)) (fun _ h9 => h9) rfl (by decide +kernel) rfl rfl (Nat.le_of_ble_eq_true rfl) dX2_markOfHabit_9 (fun H locs hP hD hS => ?_)
  replace hP : va_P D vwCl (wX h cA by_ ln pl tk tp (nI n) may hd fi un sz2 may2 hd2 fi2 un2 on asd io ia kept (tr + 100)) H := hP
  replace hD : va_D A (wX h cA by_ ln pl tk tp (nI n) may hd fi un sz2 may2 hd2 fi2 un2 on asd io ia kept (tr + 100)) := hD
  refine lv_aload_n hx hb dX2_markOfHabit_12 rfl (lv_at hl 0 rfl) ?_
  refine lv_iload_n hx hb dX2_markOfHabit_13 rfl (lv_at hl 1 rfl) ?_
  have hFc := va_free (wc := (wX h cA by_ ln pl tk tp (nI n) may hd fi un sz2 may2 hd2 fi2 un2 on asd io ia kept (tr + 100))) hD hS hA [0, 1, 2, 3, 4, 5, 6, 7, 8, 9, 10, 11, 12] rfl
  refine rw_i (D := D) (wc := (wX h cA by_ ln pl tk tp (nI n) may hd fi un sz2 may2 hd2 fi2 un2 on asd io ia kept (tr + 100))) (va_runV (As := [.int k]) (rest := []) ⟨hx, hb, hml, hown, hts⟩ (c_X2_markOfRule l D h cA n by_ ln pl tk tp may hd fi un sz2 may2 hd2 fi2 un2 on asd io ia kept (tr + 100) k (by first | assumption | omega) (by first | assumption | omega) _) (cwV 1 hts gX2_markOfHabit_X2_markOfRule rfl rfl rfl (by decide +kernel) ⟨Nat.le_of_ble_eq_true rfl, Nat.le_of_ble_eq_true rfl⟩) ⟨cPre.blind, va_recv hK hP (ci := 2) (q0 := 0) rfl rfl, cPre.mk hP hK hD hN⟩ rfl rfl hl.1 rfl (lv_room (Nat.le_of_ble_eq_true rfl)) dX2_markOfHabit_14 ⟨Nat.zero_le _, Nat.zero_le _⟩) hS hFc (fun rv_2 u H1 locs hw_3 hP1 hD1 hk1 hS => ?_)
  obtain ⟨trv_1, rfl⟩ : ∃ y, y = u := ⟨_, rfl⟩
  try dsimp only at hw_3
  have hP : va_P D vwCl (wX h cA by_ ln pl tk tp (nI n) may hd fi un sz2 may2 hd2 fi2 un2 on asd io ia kept trv_1) H1 := hP1
  have hD : va_D A (wX h cA by_ ln pl tk tp (nI n) may hd fi un sz2 may2 hd2 fi2 un2 on asd io ia kept trv_1) := hD1.weaken (fun k q hk h => hFc _ h)
  clear hP1 hD1 hFc hk1
  generalize H1 = H at hP hS ⊢
  refine lv_aload_n hx hb dX2_markOfHabit_17 rfl (lv_at hl 0 rfl) ?_
  refine va_get (D := D) (ci := 2) (v := .ref (h 3)) (C := RX2) (T := TX2) (N := 9) hx hb hts hinX2 hown hK hP 0 rfl rfl 1 (by decide) (hts (.fieldLink RX2 19 "HoldUnless" "book" "LHoldUnless$RuleBook;") (by decide +kernel)) (fun _ h9 => h9) rfl dX2_markOfHabit_18 ?_
  refine va_getN (D := D) (ci := 0) (v := .ref (h 6)) (C := RX0) (T := TX0) (N := 5) hx hb hts hinX0 hown hK hP 3 rfl rfl 4 (by decide) (hN.use 23 rfl) (fun _ h9 => h9) rfl dX2_markOfHabit_21 ?_
  refine lv_iload_n hx hb dX2_markOfHabit_24 rfl (lv_at hl 1 rfl) ?_
  refine va_iald hx hb hK hP 6 3 rfl rfl (hk) dX2_markOfHabit_25 ?_
  refine ro_i (D := D) (va_runS (As := [.int (un k.toNatClampNeg)]) (rest := [.int rv_2]) ⟨hx, hb, hml, hown, hts⟩ (c_J6_bitCount_0f7a4 l D (un k.toNatClampNeg)  _) (va_cwS 1 hts gX2_markOfHabit_J6_bitCount_0f7a4 rfl rfl rfl (by decide +kernel) ⟨Nat.le_of_ble_eq_true rfl, Nat.le_of_ble_eq_true rfl⟩) ⟨cPre.blind, cPre.mk vP0 hKe vD0 hN⟩ rfl rfl hl.1 rfl (lv_room (Nat.le_of_ble_eq_true rfl)) dX2_markOfHabit_26 ⟨Nat.zero_le _, Nat.zero_le _⟩) hS hA (fun H locs hkp0 hS => ?_)
  replace hP := hkp0 _ hP
  refine lv_isub hx hb dX2_markOfHabit_29 ?_
  exact rw_iret hx hb hr hS hlocks trv_1 (show s_X2_markOfHabit fi un tr k = ((rv_2 - (s_J6_bitCount_0f7a4 (un k.toNatClampNeg))), trv_1) from by (unfold s_X2_markOfHabit; (try dsimp only); (try rw [← hw_3]); (try dsimp only); first | done | rfl)).symm hP hD dX2_markOfHabit_30

def s_X2_markOfDecree (fi : Nat → Int32) (un : Nat → Int32) (tr : Int64) (k : Int32) : Int32 × Int64 := (match s_X2_markOfLaw fi un (tr + 1000) k with | (rv_2, trv_1) => ((rv_2 + k), trv_1))
set_option maxHeartbeats 4000000 in
set_option maxRecDepth 100000 in
theorem c_X2_markOfDecree (l : Launch) (D : va_G) (h : Nat → Nat) (cA : Nat → ClassId) (n : Nat) (by_ : Nat → Int32) (ln : Int32) (pl : Int32) (tk : Int32) (tp : Int32) (may : Int32) (hd : Nat → Int32) (fi : Nat → Int32) (un : Nat → Int32) (sz2 : Int32) (may2 : Int32) (hd2 : Nat → Int32) (fi2 : Nat → Int32) (un2 : Nat → Int32) (on : Int32) (asd : Int32) (io : Nat → Int32) (ia : Nat → Int32) (kept : Int32) (tr : Int64) (k : Int32) (hn : n ≤ 10) (hk : vp_in k 10) (sz : Nat) : Met l yX2_markOfDecree wsX2_markOfDecree ({ frames := 3, cells := 0, slots := 0, locals := 62 }) (va_Pc [.ref (h 0), .int k] (cPre D (tX h cA) (wX h cA by_ ln pl tk tp (nI n) may hd fi un sz2 may2 hd2 fi2 un2 on asd io ia kept tr) sz)) (va_Qi (fun (r : Int32) (u : Int64) => (r, u) = s_X2_markOfDecree fi un tr k) (rwB D (fun u : Int64 => (wX h cA by_ ln pl tk tp (nI n) may hd fi un sz2 may2 hd2 fi2 un2 on asd io ia kept u)) (va_A (wX h cA by_ ln pl tk tp (nI n) may hd fi un sz2 may2 hd2 fi2 un2 on asd io ia kept tr) sz)) (va_A (wX h cA by_ ln pl tk tp (nI n) may hd fi un sz2 may2 hd2 fi2 un2 on asd io ia kept tr) sz)) 0 0 (va_A (wX h cA by_ ln pl tk tp (nI n) may hd fi un sz2 may2 hd2 fi2 un2 on asd io ia kept tr) sz) := by
  refine Met.ofW (cc := cX2_markOfDecree) (maxL := 2) (ret := (some .int)) (by decide) rfl ?_
  intro p e s m args below meth c s₁ B hml hv
  obtain ⟨rfl, hsz, hP, hK, hD, hN⟩ := hv
  have hx := B.exec
  have hb := B.bytes
  have hr := B.returns
  have hts := atoms_spec (ws := wsX2_markOfDecree) B.pre
  have hown : s.vm.findClass RX2 = some m.cls := findClass_of_methodNamed B.named
  have hlocks := B.notSynchronized
  have hinX2 : ∀ w ∈ wsX20, w ∈ wsX2_markOfDecree := fun w h => List.mem_cons_of_mem _ (List.mem_append_left _ (List.mem_append_right _ h))
  subst hsz
  replace hD := hD.self (sz := s.heap.size)
  generalize hAe : va_A (wX h cA by_ ln pl tk tp (nI n) may hd fi un sz2 may2 hd2 fi2 un2 on asd io ia kept tr) s.heap.size = A at hD ⊢
  have hA : ∀ q : Nat, s.heap.size ≤ q → A q := fun q h => by rw [← hAe]; exact Or.inr h
  have hS : va_S A s.heap s.heap [] := va_S.rf
  have hl := lv_entry ([.ref (h 0), .int k]) (n := 2) (Nat.le_of_ble_eq_true rfl)
  rw [lg_entry_eq]
  generalize (lg_sl ([.ref (h 0), .int k]) ++ List.replicate (2 - (lg_sl ([.ref (h 0), .int k])).length) Slot.unset).toArray = ls at hl ⊢
  replace hl : lv_has ls 2 [(0, .ref (h 0)), (1, .int k)] := hl
  have hKe := hK.sub (tys' := []) [] rfl
  refine lv_aload_n hx hb dX2_markOfDecree_0 rfl (lv_at hl 0 rfl) ?_
  refine lv_dup hx hb dX2_markOfDecree_1 rfl ?_
  refine va_get (D := D) (ci := 2) (v := .long tr) (C := RX2) (T := TX2) (N := 9) hx hb hts hinX2 hown hK hP 0 rfl rfl 8 (by decide) (hts (.fieldLink RX2 157 "HoldUnless" "traceSum" "J") (by decide +kernel)) (fun _ h9 => h9) rfl dX2_markOfDecree_2 ?_
  refine lv_ldc2 (v := 1000) hx hb hown (hts (.constantLong RX2 165 (1000)) (by decide +kernel)) dX2_markOfDecree_5 ?_
  refine lv_ladd hx hb dX2_markOfDecree_8 ?_
  refine va_put (D := D) (ci := 2) (v := .long (tr + 1000)) (ty := .long) (C := RX2) (T := TX2) (N := 9) hx hb hts hinX2 tyX2 tyX2_ok nmX2 hown hK hP hD hS 0 rfl rfl 8 (by decide) (hts (.fieldLink RX2 157 "HoldUnless" "traceSum" "J") (by decide +kernel)) (fun _ h9 => h9) rfl (by decide +kernel) rfl rfl (Nat.le_of_ble_eq_true rfl) dX2_markOfDecree_9 (fun H locs hP hD hS => ?_)
  replace hP : va_P D vwCl (wX h cA by_ ln pl tk tp (nI n) may hd fi un sz2 may2 hd2 fi2 un2 on asd io ia kept (tr + 1000)) H := hP
  replace hD : va_D A (wX h cA by_ ln pl tk tp (nI n) may hd fi un sz2 may2 hd2 fi2 un2 on asd io ia kept (tr + 1000)) := hD
  refine lv_aload_n hx hb dX2_markOfDecree_12 rfl (lv_at hl 0 rfl) ?_
  refine lv_iload_n hx hb dX2_markOfDecree_13 rfl (lv_at hl 1 rfl) ?_
  have hFc := va_free (wc := (wX h cA by_ ln pl tk tp (nI n) may hd fi un sz2 may2 hd2 fi2 un2 on asd io ia kept (tr + 1000))) hD hS hA [0, 1, 2, 3, 4, 5, 6, 7, 8, 9, 10, 11, 12] rfl
  refine rw_i (D := D) (wc := (wX h cA by_ ln pl tk tp (nI n) may hd fi un sz2 may2 hd2 fi2 un2 on asd io ia kept (tr + 1000))) (va_runV (As := [.int k]) (rest := []) ⟨hx, hb, hml, hown, hts⟩ (c_X2_markOfLaw l D h cA n by_ ln pl tk tp may hd fi un sz2 may2 hd2 fi2 un2 on asd io ia kept (tr + 1000) k (by first | assumption | omega) (by first | assumption | omega) _) (cwV 1 hts gX2_markOfDecree_X2_markOfLaw rfl rfl rfl (by decide +kernel) ⟨Nat.le_of_ble_eq_true rfl, Nat.le_of_ble_eq_true rfl⟩) ⟨cPre.blind, va_recv hK hP (ci := 2) (q0 := 0) rfl rfl, cPre.mk hP hK hD hN⟩ rfl rfl hl.1 rfl (lv_room (Nat.le_of_ble_eq_true rfl)) dX2_markOfDecree_14 ⟨Nat.zero_le _, Nat.zero_le _⟩) hS hFc (fun rv_2 u H1 locs hw_3 hP1 hD1 hk1 hS => ?_)
  obtain ⟨trv_1, rfl⟩ : ∃ y, y = u := ⟨_, rfl⟩
  try dsimp only at hw_3
  have hP : va_P D vwCl (wX h cA by_ ln pl tk tp (nI n) may hd fi un sz2 may2 hd2 fi2 un2 on asd io ia kept trv_1) H1 := hP1
  have hD : va_D A (wX h cA by_ ln pl tk tp (nI n) may hd fi un sz2 may2 hd2 fi2 un2 on asd io ia kept trv_1) := hD1.weaken (fun k q hk h => hFc _ h)
  clear hP1 hD1 hFc hk1
  generalize H1 = H at hP hS ⊢
  refine lv_iload_n hx hb dX2_markOfDecree_17 rfl (lv_at hl 1 rfl) ?_
  refine lv_iadd hx hb dX2_markOfDecree_18 ?_
  exact rw_iret hx hb hr hS hlocks trv_1 (show s_X2_markOfDecree fi un tr k = ((rv_2 + k), trv_1) from by (unfold s_X2_markOfDecree; (try dsimp only); (try rw [← hw_3]); (try dsimp only); first | done | rfl)).symm hP hD dX2_markOfDecree_19

def s_X2_markOfCustom (fi : Nat → Int32) (un : Nat → Int32) (on : Int32) (tr : Int64) (k : Int32) : Int32 × Int64 := (match s_X2_markOfHabit fi un (tr + 10000) k with | (rv_2, trv_1) => ((rv_2 + (s_X2_bitOf on k)), trv_1))
set_option maxHeartbeats 4000000 in
set_option maxRecDepth 100000 in
theorem c_X2_markOfCustom (l : Launch) (D : va_G) (h : Nat → Nat) (cA : Nat → ClassId) (n : Nat) (by_ : Nat → Int32) (ln : Int32) (pl : Int32) (tk : Int32) (tp : Int32) (may : Int32) (hd : Nat → Int32) (fi : Nat → Int32) (un : Nat → Int32) (sz2 : Int32) (may2 : Int32) (hd2 : Nat → Int32) (fi2 : Nat → Int32) (un2 : Nat → Int32) (on : Int32) (asd : Int32) (io : Nat → Int32) (ia : Nat → Int32) (kept : Int32) (tr : Int64) (k : Int32) (hn : n ≤ 10) (hk : vp_in k 10) (sz : Nat) : Met l yX2_markOfCustom wsX2_markOfCustom ({ frames := 3, cells := 0, slots := 0, locals := 62 }) (va_Pc [.ref (h 0), .int k] (cPre D (tX h cA) (wX h cA by_ ln pl tk tp (nI n) may hd fi un sz2 may2 hd2 fi2 un2 on asd io ia kept tr) sz)) (va_Qi (fun (r : Int32) (u : Int64) => (r, u) = s_X2_markOfCustom fi un on tr k) (rwB D (fun u : Int64 => (wX h cA by_ ln pl tk tp (nI n) may hd fi un sz2 may2 hd2 fi2 un2 on asd io ia kept u)) (va_A (wX h cA by_ ln pl tk tp (nI n) may hd fi un sz2 may2 hd2 fi2 un2 on asd io ia kept tr) sz)) (va_A (wX h cA by_ ln pl tk tp (nI n) may hd fi un sz2 may2 hd2 fi2 un2 on asd io ia kept tr) sz)) 0 0 (va_A (wX h cA by_ ln pl tk tp (nI n) may hd fi un sz2 may2 hd2 fi2 un2 on asd io ia kept tr) sz) := by
  refine Met.ofW (cc := cX2_markOfCustom) (maxL := 2) (ret := (some .int)) (by decide) rfl ?_
  intro p e s m args below meth c s₁ B hml hv
  obtain ⟨rfl, hsz, hP, hK, hD, hN⟩ := hv
  have hx := B.exec
  have hb := B.bytes
  have hr := B.returns
  have hts := atoms_spec (ws := wsX2_markOfCustom) B.pre
  have hown : s.vm.findClass RX2 = some m.cls := findClass_of_methodNamed B.named
  have hlocks := B.notSynchronized
  have hinX2 : ∀ w ∈ wsX20, w ∈ wsX2_markOfCustom := fun w h => List.mem_cons_of_mem _ (List.mem_append_left _ (List.mem_append_right _ h))
  subst hsz
  replace hD := hD.self (sz := s.heap.size)
  generalize hAe : va_A (wX h cA by_ ln pl tk tp (nI n) may hd fi un sz2 may2 hd2 fi2 un2 on asd io ia kept tr) s.heap.size = A at hD ⊢
  have hA : ∀ q : Nat, s.heap.size ≤ q → A q := fun q h => by rw [← hAe]; exact Or.inr h
  have hS : va_S A s.heap s.heap [] := va_S.rf
  have hl := lv_entry ([.ref (h 0), .int k]) (n := 2) (Nat.le_of_ble_eq_true rfl)
  rw [lg_entry_eq]
  generalize (lg_sl ([.ref (h 0), .int k]) ++ List.replicate (2 - (lg_sl ([.ref (h 0), .int k])).length) Slot.unset).toArray = ls at hl ⊢
  replace hl : lv_has ls 2 [(0, .ref (h 0)), (1, .int k)] := hl
  have hKe := hK.sub (tys' := []) [] rfl
  refine lv_aload_n hx hb dX2_markOfCustom_0 rfl (lv_at hl 0 rfl) ?_
  refine lv_dup hx hb dX2_markOfCustom_1 rfl ?_
  refine va_get (D := D) (ci := 2) (v := .long tr) (C := RX2) (T := TX2) (N := 9) hx hb hts hinX2 hown hK hP 0 rfl rfl 8 (by decide) (hts (.fieldLink RX2 157 "HoldUnless" "traceSum" "J") (by decide +kernel)) (fun _ h9 => h9) rfl dX2_markOfCustom_2 ?_
  refine lv_ldc2 (v := 10000) hx hb hown (hts (.constantLong RX2 167 (10000)) (by decide +kernel)) dX2_markOfCustom_5 ?_
  refine lv_ladd hx hb dX2_markOfCustom_8 ?_
  refine va_put (D := D) (ci := 2) (v := .long (tr + 10000)) (ty := .long) (C := RX2) (T := TX2) (N := 9) hx hb hts hinX2 tyX2 tyX2_ok nmX2 hown hK hP hD hS 0 rfl rfl 8 (by decide) (hts (.fieldLink RX2 157 "HoldUnless" "traceSum" "J") (by decide +kernel)) (fun _ h9 => h9) rfl (by decide +kernel) rfl rfl (Nat.le_of_ble_eq_true rfl) dX2_markOfCustom_9 (fun H locs hP hD hS => ?_)
  replace hP : va_P D vwCl (wX h cA by_ ln pl tk tp (nI n) may hd fi un sz2 may2 hd2 fi2 un2 on asd io ia kept (tr + 10000)) H := hP
  replace hD : va_D A (wX h cA by_ ln pl tk tp (nI n) may hd fi un sz2 may2 hd2 fi2 un2 on asd io ia kept (tr + 10000)) := hD
  refine lv_aload_n hx hb dX2_markOfCustom_12 rfl (lv_at hl 0 rfl) ?_
  refine lv_iload_n hx hb dX2_markOfCustom_13 rfl (lv_at hl 1 rfl) ?_
  have hFc := va_free (wc := (wX h cA by_ ln pl tk tp (nI n) may hd fi un sz2 may2 hd2 fi2 un2 on asd io ia kept (tr + 10000))) hD hS hA [0, 1, 2, 3, 4, 5, 6, 7, 8, 9, 10, 11, 12] rfl
  refine rw_i (D := D) (wc := (wX h cA by_ ln pl tk tp (nI n) may hd fi un sz2 may2 hd2 fi2 un2 on asd io ia kept (tr + 10000))) (va_runV (As := [.int k]) (rest := []) ⟨hx, hb, hml, hown, hts⟩ (c_X2_markOfHabit l D h cA n by_ ln pl tk tp may hd fi un sz2 may2 hd2 fi2 un2 on asd io ia kept (tr + 10000) k (by first | assumption | omega) (by first | assumption | omega) _) (cwV 1 hts gX2_markOfCustom_X2_markOfHabit rfl rfl rfl (by decide +kernel) ⟨Nat.le_of_ble_eq_true rfl, Nat.le_of_ble_eq_true rfl⟩) ⟨cPre.blind, va_recv hK hP (ci := 2) (q0 := 0) rfl rfl, cPre.mk hP hK hD hN⟩ rfl rfl hl.1 rfl (lv_room (Nat.le_of_ble_eq_true rfl)) dX2_markOfCustom_14 ⟨Nat.zero_le _, Nat.zero_le _⟩) hS hFc (fun rv_2 u H1 locs hw_3 hP1 hD1 hk1 hS => ?_)
  obtain ⟨trv_1, rfl⟩ : ∃ y, y = u := ⟨_, rfl⟩
  try dsimp only at hw_3
  have hP : va_P D vwCl (wX h cA by_ ln pl tk tp (nI n) may hd fi un sz2 may2 hd2 fi2 un2 on asd io ia kept trv_1) H1 := hP1
  have hD : va_D A (wX h cA by_ ln pl tk tp (nI n) may hd fi un sz2 may2 hd2 fi2 un2 on asd io ia kept trv_1) := hD1.weaken (fun k q hk h => hFc _ h)
  clear hP1 hD1 hFc hk1
  generalize H1 = H at hP hS ⊢
  refine lv_aload_n hx hb dX2_markOfCustom_17 rfl (lv_at hl 0 rfl) ?_
  refine va_get (D := D) (ci := 2) (v := .int on) (C := RX2) (T := TX2) (N := 9) hx hb hts hinX2 hown hK hP 0 rfl rfl 3 (by decide) (hts (.fieldLink RX2 51 "HoldUnless" "on" "I") (by decide +kernel)) (fun _ h9 => h9) rfl dX2_markOfCustom_18 ?_
  refine lv_iload_n hx hb dX2_markOfCustom_21 rfl (lv_at hl 1 rfl) ?_
  refine ro_i (D := D) (va_runS (As := [.int on, .int k]) (rest := [.int rv_2]) ⟨hx, hb, hml, hown, hts⟩ (c_X2_bitOf l D on k  _) (va_cwS 2 hts gX2_markOfCustom_X2_bitOf rfl rfl rfl (by decide +kernel) ⟨Nat.le_of_ble_eq_true rfl, Nat.le_of_ble_eq_true rfl⟩) ⟨cPre.blind, cPre.mk vP0 hKe vD0 hN⟩ rfl rfl hl.1 rfl (lv_room (Nat.le_of_ble_eq_true rfl)) dX2_markOfCustom_22 ⟨Nat.zero_le _, Nat.zero_le _⟩) hS hA (fun H locs hkp0 hS => ?_)
  replace hP := hkp0 _ hP
  refine lv_iadd hx hb dX2_markOfCustom_25 ?_
  exact rw_iret hx hb hr hS hlocks trv_1 (show s_X2_markOfCustom fi un on tr k = ((rv_2 + (s_X2_bitOf on k)), trv_1) from by (unfold s_X2_markOfCustom; (try dsimp only); (try rw [← hw_3]); (try dsimp only); first | done | rfl)).symm hP hD dX2_markOfCustom_26

def s_X2_markOfOath (hd : Nat → Int32) (fi : Nat → Int32) (un : Nat → Int32) (tr : Int64) (k : Int32) : Int32 × Int64 := (match s_X2_markOfRule fi un (tr + 100000) k with | (rv_2, trv_1) => ((rv_2 + (hd k.toNatClampNeg)), trv_1))
set_option maxHeartbeats 4000000 in
set_option maxRecDepth 100000 in
theorem c_X2_markOfOath (l : Launch) (D : va_G) (h : Nat → Nat) (cA : Nat → ClassId) (n : Nat) (by_ : Nat → Int32) (ln : Int32) (pl : Int32) (tk : Int32) (tp : Int32) (may : Int32) (hd : Nat → Int32) (fi : Nat → Int32) (un : Nat → Int32) (sz2 : Int32) (may2 : Int32) (hd2 : Nat → Int32) (fi2 : Nat → Int32) (un2 : Nat → Int32) (on : Int32) (asd : Int32) (io : Nat → Int32) (ia : Nat → Int32) (kept : Int32) (tr : Int64) (k : Int32) (hn : n ≤ 10) (hk : vp_in k 10) (sz : Nat) : Met l yX2_markOfOath wsX2_markOfOath ({ frames := 2, cells := 0, slots := 0, locals := 41 }) (va_Pc [.ref (h 0), .int k] (cPre D (tX h cA) (wX h cA by_ ln pl tk tp (nI n) may hd fi un sz2 may2 hd2 fi2 un2 on asd io ia kept tr) sz)) (va_Qi (fun (r : Int32) (u : Int64) => (r, u) = s_X2_markOfOath hd fi un tr k) (rwB D (fun u : Int64 => (wX h cA by_ ln pl tk tp (nI n) may hd fi un sz2 may2 hd2 fi2 un2 on asd io ia kept u)) (va_A (wX h cA by_ ln pl tk tp (nI n) may hd fi un sz2 may2 hd2 fi2 un2 on asd io ia kept tr) sz)) (va_A (wX h cA by_ ln pl tk tp (nI n) may hd fi un sz2 may2 hd2 fi2 un2 on asd io ia kept tr) sz)) 0 0 (va_A (wX h cA by_ ln pl tk tp (nI n) may hd fi un sz2 may2 hd2 fi2 un2 on asd io ia kept tr) sz) := by
  refine Met.ofW (cc := cX2_markOfOath) (maxL := 2) (ret := (some .int)) (by decide) rfl ?_
  intro p e s m args below meth c s₁ B hml hv
  obtain ⟨rfl, hsz, hP, hK, hD, hN⟩ := hv
  have hx := B.exec
  have hb := B.bytes
  have hr := B.returns
  have hts := atoms_spec (ws := wsX2_markOfOath) B.pre
  have hown : s.vm.findClass RX2 = some m.cls := findClass_of_methodNamed B.named
  have hlocks := B.notSynchronized
  have hinX0 : ∀ w ∈ wsX00, w ∈ wsX2_markOfOath := fun w h => List.mem_cons_of_mem _ (List.mem_append_right _ h)
  have hinX2 : ∀ w ∈ wsX20, w ∈ wsX2_markOfOath := fun w h => List.mem_cons_of_mem _ (List.mem_append_left _ (List.mem_append_right _ h))
  subst hsz
  replace hD := hD.self (sz := s.heap.size)
  generalize hAe : va_A (wX h cA by_ ln pl tk tp (nI n) may hd fi un sz2 may2 hd2 fi2 un2 on asd io ia kept tr) s.heap.size = A at hD ⊢
  have hA : ∀ q : Nat, s.heap.size ≤ q → A q := fun q h => by rw [← hAe]; exact Or.inr h
  have hS : va_S A s.heap s.heap [] := va_S.rf
  have hl := lv_entry ([.ref (h 0), .int k]) (n := 2) (Nat.le_of_ble_eq_true rfl)
  rw [lg_entry_eq]
  generalize (lg_sl ([.ref (h 0), .int k]) ++ List.replicate (2 - (lg_sl ([.ref (h 0), .int k])).length) Slot.unset).toArray = ls at hl ⊢
  replace hl : lv_has ls 2 [(0, .ref (h 0)), (1, .int k)] := hl
  have hKe := hK.sub (tys' := []) [] rfl
  refine lv_aload_n hx hb dX2_markOfOath_0 rfl (lv_at hl 0 rfl) ?_
  refine lv_dup hx hb dX2_markOfOath_1 rfl ?_
  refine va_get (D := D) (ci := 2) (v := .long tr) (C := RX2) (T := TX2) (N := 9) hx hb hts hinX2 hown hK hP 0 rfl rfl 8 (by decide) (hts (.fieldLink RX2 157 "HoldUnless" "traceSum" "J") (by decide +kernel)) (fun _ h9 => h9) rfl dX2_markOfOath_2 ?_
  refine lv_ldc2 (v := 100000) hx hb hown (hts (.constantLong RX2 169 (100000)) (by decide +kernel)) dX2_markOfOath_5 ?_
  refine lv_ladd hx hb dX2_markOfOath_8 ?_
  refine va_put (D := D) (ci := 2) (v := .long (tr + 100000)) (ty := .long) (C := RX2) (T := TX2) (N := 9) hx hb hts hinX2 tyX2 tyX2_ok nmX2 hown hK hP hD hS 0 rfl rfl 8 (by decide) (hts (.fieldLink RX2 157 "HoldUnless" "traceSum" "J") (by decide +kernel)) (fun _ h9 => h9) rfl (by decide +kernel) rfl rfl (Nat.le_of_ble_eq_true rfl) dX2_markOfOath_9 (fun H locs hP hD hS => ?_)
  replace hP : va_P D vwCl (wX h cA by_ ln pl tk tp (nI n) may hd fi un sz2 may2 hd2 fi2 un2 on asd io ia kept (tr + 100000)) H := hP
  replace hD : va_D A (wX h cA by_ ln pl tk tp (nI n) may hd fi un sz2 may2 hd2 fi2 un2 on asd io ia kept (tr + 100000)) := hD
  refine lv_aload_n hx hb dX2_markOfOath_12 rfl (lv_at hl 0 rfl) ?_
  refine lv_iload_n hx hb dX2_markOfOath_13 rfl (lv_at hl 1 rfl) ?_
  have hFc := va_free (wc := (wX h cA by_ ln pl tk tp (nI n) may hd fi un sz2 may2 hd2 fi2 un2 on asd io ia kept (tr + 100000))) hD hS hA [0, 1, 2, 3, 4, 5, 6, 7, 8, 9, 10, 11, 12] rfl
  refine rw_i (D := D) (wc := (wX h cA by_ ln pl tk tp (nI n) may hd fi un sz2 may2 hd2 fi2 un2 on asd io ia kept (tr + 100000))) (va_runV (As := [.int k]) (rest := []) ⟨hx, hb, hml, hown, hts⟩ (c_X2_markOfRule l D h cA n by_ ln pl tk tp may hd fi un sz2 may2 hd2 fi2 un2 on asd io ia kept (tr + 100000) k (by first | assumption | omega) (by first | assumption | omega) _) (cwV 1 hts gX2_markOfOath_X2_markOfRule rfl rfl rfl (by decide +kernel) ⟨Nat.le_of_ble_eq_true rfl, Nat.le_of_ble_eq_true rfl⟩) ⟨cPre.blind, va_recv hK hP (ci := 2) (q0 := 0) rfl rfl, cPre.mk hP hK hD hN⟩ rfl rfl hl.1 rfl (lv_room (Nat.le_of_ble_eq_true rfl)) dX2_markOfOath_14 ⟨Nat.zero_le _, Nat.zero_le _⟩) hS hFc (fun rv_2 u H1 locs hw_3 hP1 hD1 hk1 hS => ?_)
  obtain ⟨trv_1, rfl⟩ : ∃ y, y = u := ⟨_, rfl⟩
  try dsimp only at hw_3
  have hP : va_P D vwCl (wX h cA by_ ln pl tk tp (nI n) may hd fi un sz2 may2 hd2 fi2 un2 on asd io ia kept trv_1) H1 := hP1
  have hD : va_D A (wX h cA by_ ln pl tk tp (nI n) may hd fi un sz2 may2 hd2 fi2 un2 on asd io ia kept trv_1) := hD1.weaken (fun k q hk h => hFc _ h)
  clear hP1 hD1 hFc hk1
  generalize H1 = H at hP hS ⊢
  refine lv_aload_n hx hb dX2_markOfOath_17 rfl (lv_at hl 0 rfl) ?_
  refine va_get (D := D) (ci := 2) (v := .ref (h 3)) (C := RX2) (T := TX2) (N := 9) hx hb hts hinX2 hown hK hP 0 rfl rfl 1 (by decide) (hts (.fieldLink RX2 19 "HoldUnless" "book" "LHoldUnless$RuleBook;") (by decide +kernel)) (fun _ h9 => h9) rfl dX2_markOfOath_18 ?_
  refine va_getN (D := D) (ci := 0) (v := .ref (h 4)) (C := RX0) (T := TX0) (N := 5) hx hb hts hinX0 hown hK hP 3 rfl rfl 2 (by decide) (hN.use 21 rfl) (fun _ h9 => h9) rfl dX2_markOfOath_21 ?_
  refine lv_iload_n hx hb dX2_markOfOath_24 rfl (lv_at hl 1 rfl) ?_
  refine va_iald hx hb hK hP 4 1 rfl rfl (hk) dX2_markOfOath_25 ?_
  refine lv_iadd hx hb dX2_markOfOath_26 ?_
  exact rw_iret hx hb hr hS hlocks trv_1 (show s_X2_markOfOath hd fi un tr k = ((rv_2 + (hd k.toNatClampNeg)), trv_1) from by (unfold s_X2_markOfOath; (try dsimp only); (try rw [← hw_3]); (try dsimp only); first | done | rfl)).symm hP hD dX2_markOfOath_27

def s_X2_mark (n : Nat) (hd : Nat → Int32) (fi : Nat → Int32) (un : Nat → Int32) (on : Int32) (tr : Int64) (kind : Int32) (k : Int32) : Int32 × Int64 := (if (s_X2_isRule n k) = 0 then ((-1000000), tr) else (if kind = 0 then (match s_X2_markOfRule fi un tr k with | (rv_4, trv_3) => (rv_4, trv_3)) else (if kind = 1 then (match s_X2_markOfLaw fi un tr k with | (rv_8, trv_7) => (rv_8, trv_7)) else (if kind = 2 then (match s_X2_markOfHabit fi un tr k with | (rv_12, trv_11) => (rv_12, trv_11)) else (if kind = 3 then (match s_X2_markOfDecree fi un tr k with | (rv_16, trv_15) => (rv_16, trv_15)) else (if kind = 4 then (match s_X2_markOfCustom fi un on tr k with | (rv_20, trv_19) => (rv_20, trv_19)) else (if kind = 5 then (match s_X2_markOfOath hd fi un tr k with | (rv_24, trv_23) => (rv_24, trv_23)) else ((-1000000), tr))))))))
set_option maxHeartbeats 4000000 in
set_option maxRecDepth 100000 in
theorem c_X2_mark (l : Launch) (D : va_G) (h : Nat → Nat) (cA : Nat → ClassId) (n : Nat) (by_ : Nat → Int32) (ln : Int32) (pl : Int32) (tk : Int32) (tp : Int32) (may : Int32) (hd : Nat → Int32) (fi : Nat → Int32) (un : Nat → Int32) (sz2 : Int32) (may2 : Int32) (hd2 : Nat → Int32) (fi2 : Nat → Int32) (un2 : Nat → Int32) (on : Int32) (asd : Int32) (io : Nat → Int32) (ia : Nat → Int32) (kept : Int32) (tr : Int64) (kind : Int32) (k : Int32) (hn : n ≤ 10) (sz : Nat) : Met l yX2_mark wsX2_mark ({ frames := 4, cells := 0, slots := 0, locals := 83 }) (va_Pc [.ref (h 0), .int kind, .int k] (cPre D (tX h cA) (wX h cA by_ ln pl tk tp (nI n) may hd fi un sz2 may2 hd2 fi2 un2 on asd io ia kept tr) sz)) (va_Qi (fun (r : Int32) (u : Int64) => (r, u) = s_X2_mark n hd fi un on tr kind k) (rwB D (fun u : Int64 => (wX h cA by_ ln pl tk tp (nI n) may hd fi un sz2 may2 hd2 fi2 un2 on asd io ia kept u)) (va_A (wX h cA by_ ln pl tk tp (nI n) may hd fi un sz2 may2 hd2 fi2 un2 on asd io ia kept tr) sz)) (va_A (wX h cA by_ ln pl tk tp (nI n) may hd fi un sz2 may2 hd2 fi2 un2 on asd io ia kept tr) sz)) 0 0 (va_A (wX h cA by_ ln pl tk tp (nI n) may hd fi un sz2 may2 hd2 fi2 un2 on asd io ia kept tr) sz) := by
  refine Met.ofW (cc := cX2_mark) (maxL := 3) (ret := (some .int)) (by decide) rfl ?_
  intro p e s m args below meth c s₁ B hml hv
  obtain ⟨rfl, hsz, hP, hK, hD, hN⟩ := hv
  have hx := B.exec
  have hb := B.bytes
  have hr := B.returns
  have hts := atoms_spec (ws := wsX2_mark) B.pre
  have hown : s.vm.findClass RX2 = some m.cls := findClass_of_methodNamed B.named
  have hlocks := B.notSynchronized
  subst hsz
  replace hD := hD.self (sz := s.heap.size)
  generalize hAe : va_A (wX h cA by_ ln pl tk tp (nI n) may hd fi un sz2 may2 hd2 fi2 un2 on asd io ia kept tr) s.heap.size = A at hD ⊢
  have hA : ∀ q : Nat, s.heap.size ≤ q → A q := fun q h => by rw [← hAe]; exact Or.inr h
  have hS : va_S A s.heap s.heap [] := va_S.rf
  have hl := lv_entry ([.ref (h 0), .int kind, .int k]) (n := 3) (Nat.le_of_ble_eq_true rfl)
  rw [lg_entry_eq]
  generalize (lg_sl ([.ref (h 0), .int kind, .int k]) ++ List.replicate (3 - (lg_sl ([.ref (h 0), .int kind, .int k])).length) Slot.unset).toArray = ls at hl ⊢
  replace hl : lv_has ls 3 [(0, .ref (h 0)), (1, .int kind), (2, .int k)] := hl
  have hKe := hK.sub (tys' := []) [] rfl
  refine lv_aload_n hx hb dX2_mark_0 rfl (lv_at hl 0 rfl) ?_
  refine lv_iload_n hx hb dX2_mark_1 rfl (lv_at hl 2 rfl) ?_
  refine ro_i (D := D) (va_runV (As := [.int k]) (rest := []) ⟨hx, hb, hml, hown, hts⟩ (c_X2_isRule l D h cA n by_ ln pl tk tp may hd fi un sz2 may2 hd2 fi2 un2 on asd io ia kept tr k (by first | assumption | omega) _) (cwV 1 hts gX2_mark_X2_isRule rfl rfl rfl (by decide +kernel) ⟨Nat.le_of_ble_eq_true rfl, Nat.le_of_ble_eq_true rfl⟩) ⟨cPre.blind, va_recv hK hP (ci := 2) (q0 := 0) rfl rfl, cPre.mk hP hK hD hN⟩ rfl rfl hl.1 rfl (lv_room (Nat.le_of_ble_eq_true rfl)) dX2_mark_2 ⟨Nat.zero_le _, Nat.zero_le _⟩) hS hA (fun H locs hkp0 hS => ?_)
  replace hP := hkp0 _ hP
  refine lv_if_ne (tgt := 11) hx hb dX2_mark_5 (by decide) (fun c_5_1 => ?_) (fun c_5_1 => ?_)
  · refine lv_iload_n hx hb dX2_mark_11 rfl (lv_at hl 1 rfl) ?_
    by_cases k_12_2 : kind = 0
    · refine lv_tableIn (tgt := 52) hx hb dX2_mark_12 (by rw [k_12_2]; decide) (by rw [k_12_2]; decide) (by rw [k_12_2]; rfl) (by decide) ?_
      refine lv_aload_n hx hb dX2_mark_52 rfl (lv_at hl 0 rfl) ?_
      refine lv_iload_n hx hb dX2_mark_53 rfl (lv_at hl 2 rfl) ?_
      have hFc := va_free (wc := (wX h cA by_ ln pl tk tp (nI n) may hd fi un sz2 may2 hd2 fi2 un2 on asd io ia kept tr)) hD hS hA [0, 1, 2, 3, 4, 5, 6, 7, 8, 9, 10, 11, 12] rfl
      refine rw_i (D := D) (wc := (wX h cA by_ ln pl tk tp (nI n) may hd fi un sz2 may2 hd2 fi2 un2 on asd io ia kept tr)) (va_runV (As := [.int k]) (rest := []) ⟨hx, hb, hml, hown, hts⟩ (c_X2_markOfRule l D h cA n by_ ln pl tk tp may hd fi un sz2 may2 hd2 fi2 un2 on asd io ia kept tr k (by first | assumption | omega) (vp_rule c_5_1 hn) _) (cwV 1 hts gX2_mark_X2_markOfRule rfl rfl rfl (by decide +kernel) ⟨Nat.le_of_ble_eq_true rfl, Nat.le_of_ble_eq_true rfl⟩) ⟨cPre.blind, va_recv hK hP (ci := 2) (q0 := 0) rfl rfl, cPre.mk hP hK hD hN⟩ rfl rfl hl.1 rfl (lv_room (Nat.le_of_ble_eq_true rfl)) dX2_mark_54 ⟨Nat.zero_le _, Nat.zero_le _⟩) hS hFc (fun rv_4 u H1 locs hw_5 hP1 hD1 hk1 hS => ?_)
      obtain ⟨trv_3, rfl⟩ : ∃ y, y = u := ⟨_, rfl⟩
      try dsimp only at hw_5
      have hP : va_P D vwCl (wX h cA by_ ln pl tk tp (nI n) may hd fi un sz2 may2 hd2 fi2 un2 on asd io ia kept trv_3) H1 := hP1
      have hD : va_D A (wX h cA by_ ln pl tk tp (nI n) may hd fi un sz2 may2 hd2 fi2 un2 on asd io ia kept trv_3) := hD1.weaken (fun k q hk h => hFc _ h)
      clear hP1 hD1 hFc hk1
      generalize H1 = H at hP hS ⊢
      exact rw_iret hx hb hr hS hlocks trv_3 (show s_X2_mark n hd fi un on tr kind k = (rv_4, trv_3) from by (unfold s_X2_mark; (try dsimp only); (try rw [if_neg c_5_1]); (try rw [if_pos k_12_2]); (try rw [← hw_5]); (try dsimp only); first | done | rfl)).symm hP hD dX2_mark_57
    · by_cases k_12_6 : kind = 1
      · refine lv_tableIn (tgt := 58) hx hb dX2_mark_12 (by rw [k_12_6]; decide) (by rw [k_12_6]; decide) (by rw [k_12_6]; rfl) (by decide) ?_
        refine lv_aload_n hx hb dX2_mark_58 rfl (lv_at hl 0 rfl) ?_
        refine lv_iload_n hx hb dX2_mark_59 rfl (lv_at hl 2 rfl) ?_
        have hFc := va_free (wc := (wX h cA by_ ln pl tk tp (nI n) may hd fi un sz2 may2 hd2 fi2 un2 on asd io ia kept tr)) hD hS hA [0, 1, 2, 3, 4, 5, 6, 7, 8, 9, 10, 11, 12] rfl
        refine rw_i (D := D) (wc := (wX h cA by_ ln pl tk tp (nI n) may hd fi un sz2 may2 hd2 fi2 un2 on asd io ia kept tr)) (va_runV (As := [.int k]) (rest := []) ⟨hx, hb, hml, hown, hts⟩ (c_X2_markOfLaw l D h cA n by_ ln pl tk tp may hd fi un sz2 may2 hd2 fi2 un2 on asd io ia kept tr k (by first | assumption | omega) (vp_rule c_5_1 hn) _) (cwV 1 hts gX2_mark_X2_markOfLaw rfl rfl rfl (by decide +kernel) ⟨Nat.le_of_ble_eq_true rfl, Nat.le_of_ble_eq_true rfl⟩) ⟨cPre.blind, va_recv hK hP (ci := 2) (q0 := 0) rfl rfl, cPre.mk hP hK hD hN⟩ rfl rfl hl.1 rfl (lv_room (Nat.le_of_ble_eq_true rfl)) dX2_mark_60 ⟨Nat.zero_le _, Nat.zero_le _⟩) hS hFc (fun rv_8 u H1 locs hw_9 hP1 hD1 hk1 hS => ?_)
        obtain ⟨trv_7, rfl⟩ : ∃ y, y = u := ⟨_, rfl⟩
        try dsimp only at hw_9
        have hP : va_P D vwCl (wX h cA by_ ln pl tk tp (nI n) may hd fi un sz2 may2 hd2 fi2 un2 on asd io ia kept trv_7) H1 := hP1
        have hD : va_D A (wX h cA by_ ln pl tk tp (nI n) may hd fi un sz2 may2 hd2 fi2 un2 on asd io ia kept trv_7) := hD1.weaken (fun k q hk h => hFc _ h)
        clear hP1 hD1 hFc hk1
        generalize H1 = H at hP hS ⊢
        exact rw_iret hx hb hr hS hlocks trv_7 (show s_X2_mark n hd fi un on tr kind k = (rv_8, trv_7) from by (unfold s_X2_mark; (try dsimp only); (try rw [if_neg c_5_1]); (try rw [if_neg k_12_2]); (try rw [if_pos k_12_6]); (try rw [← hw_9]); (try dsimp only); first | done | rfl)).symm hP hD dX2_mark_63
      · by_cases k_12_10 : kind = 2
        · refine lv_tableIn (tgt := 64) hx hb dX2_mark_12 (by rw [k_12_10]; decide) (by rw [k_12_10]; decide) (by rw [k_12_10]; rfl) (by decide) ?_
          refine lv_aload_n hx hb dX2_mark_64 rfl (lv_at hl 0 rfl) ?_
          refine lv_iload_n hx hb dX2_mark_65 rfl (lv_at hl 2 rfl) ?_
          have hFc := va_free (wc := (wX h cA by_ ln pl tk tp (nI n) may hd fi un sz2 may2 hd2 fi2 un2 on asd io ia kept tr)) hD hS hA [0, 1, 2, 3, 4, 5, 6, 7, 8, 9, 10, 11, 12] rfl
          refine rw_i (D := D) (wc := (wX h cA by_ ln pl tk tp (nI n) may hd fi un sz2 may2 hd2 fi2 un2 on asd io ia kept tr)) (va_runV (As := [.int k]) (rest := []) ⟨hx, hb, hml, hown, hts⟩ (c_X2_markOfHabit l D h cA n by_ ln pl tk tp may hd fi un sz2 may2 hd2 fi2 un2 on asd io ia kept tr k (by first | assumption | omega) (vp_rule c_5_1 hn) _) (cwV 1 hts gX2_mark_X2_markOfHabit rfl rfl rfl (by decide +kernel) ⟨Nat.le_of_ble_eq_true rfl, Nat.le_of_ble_eq_true rfl⟩) ⟨cPre.blind, va_recv hK hP (ci := 2) (q0 := 0) rfl rfl, cPre.mk hP hK hD hN⟩ rfl rfl hl.1 rfl (lv_room (Nat.le_of_ble_eq_true rfl)) dX2_mark_66 ⟨Nat.zero_le _, Nat.zero_le _⟩) hS hFc (fun rv_12 u H1 locs hw_13 hP1 hD1 hk1 hS => ?_)
          obtain ⟨trv_11, rfl⟩ : ∃ y, y = u := ⟨_, rfl⟩
          try dsimp only at hw_13
          have hP : va_P D vwCl (wX h cA by_ ln pl tk tp (nI n) may hd fi un sz2 may2 hd2 fi2 un2 on asd io ia kept trv_11) H1 := hP1
          have hD : va_D A (wX h cA by_ ln pl tk tp (nI n) may hd fi un sz2 may2 hd2 fi2 un2 on asd io ia kept trv_11) := hD1.weaken (fun k q hk h => hFc _ h)
          clear hP1 hD1 hFc hk1
          generalize H1 = H at hP hS ⊢
          exact rw_iret hx hb hr hS hlocks trv_11 (show s_X2_mark n hd fi un on tr kind k = (rv_12, trv_11) from by (unfold s_X2_mark; (try dsimp only); (try rw [if_neg c_5_1]); (try rw [if_neg k_12_2]); (try rw [if_neg k_12_6]); (try rw [if_pos k_12_10]); (try rw [← hw_13]); (try dsimp only); first | done | rfl)).symm hP hD dX2_mark_69
        · by_cases k_12_14 : kind = 3
          · refine lv_tableIn (tgt := 70) hx hb dX2_mark_12 (by rw [k_12_14]; decide) (by rw [k_12_14]; decide) (by rw [k_12_14]; rfl) (by decide) ?_
            refine lv_aload_n hx hb dX2_mark_70 rfl (lv_at hl 0 rfl) ?_
            refine lv_iload_n hx hb dX2_mark_71 rfl (lv_at hl 2 rfl) ?_
            have hFc := va_free (wc := (wX h cA by_ ln pl tk tp (nI n) may hd fi un sz2 may2 hd2 fi2 un2 on asd io ia kept tr)) hD hS hA [0, 1, 2, 3, 4, 5, 6, 7, 8, 9, 10, 11, 12] rfl
            refine rw_i (D := D) (wc := (wX h cA by_ ln pl tk tp (nI n) may hd fi un sz2 may2 hd2 fi2 un2 on asd io ia kept tr)) (va_runV (As := [.int k]) (rest := []) ⟨hx, hb, hml, hown, hts⟩ (c_X2_markOfDecree l D h cA n by_ ln pl tk tp may hd fi un sz2 may2 hd2 fi2 un2 on asd io ia kept tr k (by first | assumption | omega) (vp_rule c_5_1 hn) _) (cwV 1 hts gX2_mark_X2_markOfDecree rfl rfl rfl (by decide +kernel) ⟨Nat.le_of_ble_eq_true rfl, Nat.le_of_ble_eq_true rfl⟩) ⟨cPre.blind, va_recv hK hP (ci := 2) (q0 := 0) rfl rfl, cPre.mk hP hK hD hN⟩ rfl rfl hl.1 rfl (lv_room (Nat.le_of_ble_eq_true rfl)) dX2_mark_72 ⟨Nat.zero_le _, Nat.zero_le _⟩) hS hFc (fun rv_16 u H1 locs hw_17 hP1 hD1 hk1 hS => ?_)
            obtain ⟨trv_15, rfl⟩ : ∃ y, y = u := ⟨_, rfl⟩
            try dsimp only at hw_17
            have hP : va_P D vwCl (wX h cA by_ ln pl tk tp (nI n) may hd fi un sz2 may2 hd2 fi2 un2 on asd io ia kept trv_15) H1 := hP1
            have hD : va_D A (wX h cA by_ ln pl tk tp (nI n) may hd fi un sz2 may2 hd2 fi2 un2 on asd io ia kept trv_15) := hD1.weaken (fun k q hk h => hFc _ h)
            clear hP1 hD1 hFc hk1
            generalize H1 = H at hP hS ⊢
            exact rw_iret hx hb hr hS hlocks trv_15 (show s_X2_mark n hd fi un on tr kind k = (rv_16, trv_15) from by (unfold s_X2_mark; (try dsimp only); (try rw [if_neg c_5_1]); (try rw [if_neg k_12_2]); (try rw [if_neg k_12_6]); (try rw [if_neg k_12_10]); (try rw [if_pos k_12_14]); (try rw [← hw_17]); (try dsimp only); first | done | rfl)).symm hP hD dX2_mark_75
          · by_cases k_12_18 : kind = 4
            · refine lv_tableIn (tgt := 76) hx hb dX2_mark_12 (by rw [k_12_18]; decide) (by rw [k_12_18]; decide) (by rw [k_12_18]; rfl) (by decide) ?_
              refine lv_aload_n hx hb dX2_mark_76 rfl (lv_at hl 0 rfl) ?_
              refine lv_iload_n hx hb dX2_mark_77 rfl (lv_at hl 2 rfl) ?_
              have hFc := va_free (wc := (wX h cA by_ ln pl tk tp (nI n) may hd fi un sz2 may2 hd2 fi2 un2 on asd io ia kept tr)) hD hS hA [0, 1, 2, 3, 4, 5, 6, 7, 8, 9, 10, 11, 12] rfl
              refine rw_i (D := D) (wc := (wX h cA by_ ln pl tk tp (nI n) may hd fi un sz2 may2 hd2 fi2 un2 on asd io ia kept tr)) (va_runV (As := [.int k]) (rest := []) ⟨hx, hb, hml, hown, hts⟩ (c_X2_markOfCustom l D h cA n by_ ln pl tk tp may hd fi un sz2 may2 hd2 fi2 un2 on asd io ia kept tr k (by first | assumption | omega) (vp_rule c_5_1 hn) _) (cwV 1 hts gX2_mark_X2_markOfCustom rfl rfl rfl (by decide +kernel) ⟨Nat.le_of_ble_eq_true rfl, Nat.le_of_ble_eq_true rfl⟩) ⟨cPre.blind, va_recv hK hP (ci := 2) (q0 := 0) rfl rfl, cPre.mk hP hK hD hN⟩ rfl rfl hl.1 rfl (lv_room (Nat.le_of_ble_eq_true rfl)) dX2_mark_78 ⟨Nat.zero_le _, Nat.zero_le _⟩) hS hFc (fun rv_20 u H1 locs hw_21 hP1 hD1 hk1 hS => ?_)
              obtain ⟨trv_19, rfl⟩ : ∃ y, y = u := ⟨_, rfl⟩
              try dsimp only at hw_21
              have hP : va_P D vwCl (wX h cA by_ ln pl tk tp (nI n) may hd fi un sz2 may2 hd2 fi2 un2 on asd io ia kept trv_19) H1 := hP1
              have hD : va_D A (wX h cA by_ ln pl tk tp (nI n) may hd fi un sz2 may2 hd2 fi2 un2 on asd io ia kept trv_19) := hD1.weaken (fun k q hk h => hFc _ h)
              clear hP1 hD1 hFc hk1
              generalize H1 = H at hP hS ⊢
              exact rw_iret hx hb hr hS hlocks trv_19 (show s_X2_mark n hd fi un on tr kind k = (rv_20, trv_19) from by (unfold s_X2_mark; (try dsimp only); (try rw [if_neg c_5_1]); (try rw [if_neg k_12_2]); (try rw [if_neg k_12_6]); (try rw [if_neg k_12_10]); (try rw [if_neg k_12_14]); (try rw [if_pos k_12_18]); (try rw [← hw_21]); (try dsimp only); first | done | rfl)).symm hP hD dX2_mark_81
            · by_cases k_12_22 : kind = 5
              · refine lv_tableIn (tgt := 82) hx hb dX2_mark_12 (by rw [k_12_22]; decide) (by rw [k_12_22]; decide) (by rw [k_12_22]; rfl) (by decide) ?_
                refine lv_aload_n hx hb dX2_mark_82 rfl (lv_at hl 0 rfl) ?_
                refine lv_iload_n hx hb dX2_mark_83 rfl (lv_at hl 2 rfl) ?_
                have hFc := va_free (wc := (wX h cA by_ ln pl tk tp (nI n) may hd fi un sz2 may2 hd2 fi2 un2 on asd io ia kept tr)) hD hS hA [0, 1, 2, 3, 4, 5, 6, 7, 8, 9, 10, 11, 12] rfl
                refine rw_i (D := D) (wc := (wX h cA by_ ln pl tk tp (nI n) may hd fi un sz2 may2 hd2 fi2 un2 on asd io ia kept tr)) (va_runV (As := [.int k]) (rest := []) ⟨hx, hb, hml, hown, hts⟩ (c_X2_markOfOath l D h cA n by_ ln pl tk tp may hd fi un sz2 may2 hd2 fi2 un2 on asd io ia kept tr k (by first | assumption | omega) (vp_rule c_5_1 hn) _) (cwV 1 hts gX2_mark_X2_markOfOath rfl rfl rfl (by decide +kernel) ⟨Nat.le_of_ble_eq_true rfl, Nat.le_of_ble_eq_true rfl⟩) ⟨cPre.blind, va_recv hK hP (ci := 2) (q0 := 0) rfl rfl, cPre.mk hP hK hD hN⟩ rfl rfl hl.1 rfl (lv_room (Nat.le_of_ble_eq_true rfl)) dX2_mark_84 ⟨Nat.zero_le _, Nat.zero_le _⟩) hS hFc (fun rv_24 u H1 locs hw_25 hP1 hD1 hk1 hS => ?_)
                obtain ⟨trv_23, rfl⟩ : ∃ y, y = u := ⟨_, rfl⟩
                try dsimp only at hw_25
                have hP : va_P D vwCl (wX h cA by_ ln pl tk tp (nI n) may hd fi un sz2 may2 hd2 fi2 un2 on asd io ia kept trv_23) H1 := hP1
                have hD : va_D A (wX h cA by_ ln pl tk tp (nI n) may hd fi un sz2 may2 hd2 fi2 un2 on asd io ia kept trv_23) := hD1.weaken (fun k q hk h => hFc _ h)
                clear hP1 hD1 hFc hk1
                generalize H1 = H at hP hS ⊢
                exact rw_iret hx hb hr hS hlocks trv_23 (show s_X2_mark n hd fi un on tr kind k = (rv_24, trv_23) from by (unfold s_X2_mark; (try dsimp only); (try rw [if_neg c_5_1]); (try rw [if_neg k_12_2]); (try rw [if_neg k_12_6]); (try rw [if_neg k_12_10]); (try rw [if_neg k_12_14]); (try rw [if_neg k_12_18]); (try rw [if_pos k_12_22]); (try rw [← hw_25]); (try dsimp only); first | done | rfl)).symm hP hD dX2_mark_87
              · have ne_26 := lv_neT (a := 0) k_12_2 (by decide)
                have ne_27 := lv_neT (a := 1) k_12_6 (by decide)
                have ne_28 := lv_neT (a := 2) k_12_10 (by decide)
                have ne_29 := lv_neT (a := 3) k_12_14 (by decide)
                have ne_30 := lv_neT (a := 4) k_12_18 (by decide)
                have ne_31 := lv_neT (a := 5) k_12_22 (by decide)
                refine lv_tableOut (tgt := 88) hx hb dX2_mark_12 (by omega) (by decide) ?_
                refine lv_ldc (v := (-1000000)) hx hb hown (hts (.constant RX2 138 (-1000000)) (by decide +kernel)) dX2_mark_88 ?_
                exact rw_iret hx hb hr hS hlocks tr (show s_X2_mark n hd fi un on tr kind k = ((-1000000), tr) from by (unfold s_X2_mark; (try dsimp only); (try rw [if_neg c_5_1]); (try rw [if_neg k_12_2]); (try rw [if_neg k_12_6]); (try rw [if_neg k_12_10]); (try rw [if_neg k_12_14]); (try rw [if_neg k_12_18]); (try rw [if_neg k_12_22]); first | done | rfl)).symm hP hD dX2_mark_90
  · refine lv_ldc (v := (-1000000)) hx hb hown (hts (.constant RX2 138 (-1000000)) (by decide +kernel)) dX2_mark_8 ?_
    exact rw_iret hx hb hr hS hlocks tr (show s_X2_mark n hd fi un on tr kind k = ((-1000000), tr) from by (unfold s_X2_mark; (try dsimp only); (try rw [if_pos c_5_1]); first | done | rfl)).symm hP hD dX2_mark_10

