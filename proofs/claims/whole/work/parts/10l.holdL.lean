
def f_X2_type_39 (v : Int64) (j39 : Nat) (st : Int32 × (Nat → Int32) × Int32) : Int32 × (Nat → Int32) × Int32 := match st with | (sh4, by4, ln4) => (match s_X1_append by4 ln4 (((((v >>> (((sh4 : Int32).toInt64) &&& 63)) : Int64).toInt32) : Int32).toInt8.toInt32) with | (by_v_9, lnv_10) => ((sh4 + (-8)), by_v_9, lnv_10))
def s_X2_type (by_ : Nat → Int32) (ln : Int32) (v : Int64) (n0 : Int32) : Int32 × (Nat → Int32) × Int32 := (if n0 < 1 then ((-1), by_, ln) else (if n0 ≤ 8 then (if (ln + n0) ≤ 300 then (match itr (f_X2_type_39 v) ((8 * (n0 - 1)), by_, ln) n0.toNatClampNeg with | (sh4, by4, ln4) => (ln4, by4, ln4)) else ((-3), by_, ln)) else ((-1), by_, ln)))
set_option maxHeartbeats 4000000 in
set_option maxRecDepth 100000 in
theorem c_X2_type (l : Launch) (D : va_G) (h : Nat → Nat) (cA : Nat → ClassId) (n : Nat) (by_ : Nat → Int32) (ln : Int32) (pl : Int32) (tk : Int32) (tp : Int32) (may : Int32) (hd : Nat → Int32) (fi : Nat → Int32) (un : Nat → Int32) (sz2 : Int32) (may2 : Int32) (hd2 : Nat → Int32) (fi2 : Nat → Int32) (un2 : Nat → Int32) (on : Int32) (asd : Int32) (io : Nat → Int32) (ia : Nat → Int32) (kept : Int32) (tr : Int64) (v : Int64) (n0 : Int32) (hn : n ≤ 10) (sz : Nat) : Met l yX2_type wsX2_type ({ frames := 1, cells := 0, slots := 0, locals := 21 }) (va_Pc [.ref (h 0), .long v, .int n0] (cPre D (tX h cA) (wX h cA by_ ln pl tk tp (nI n) may hd fi un sz2 may2 hd2 fi2 un2 on asd io ia kept tr) sz)) (va_Qi (fun (r : Int32) (u : (Nat → Int32) × Int32) => (r, u.1, u.2) = s_X2_type by_ ln v n0) (rwB D (fun u : (Nat → Int32) × Int32 => (wX h cA u.1 u.2 pl tk tp (nI n) may hd fi un sz2 may2 hd2 fi2 un2 on asd io ia kept tr)) (va_A (wX h cA by_ ln pl tk tp (nI n) may hd fi un sz2 may2 hd2 fi2 un2 on asd io ia kept tr) sz)) (va_A (wX h cA by_ ln pl tk tp (nI n) may hd fi un sz2 may2 hd2 fi2 un2 on asd io ia kept tr) sz)) 0 0 (va_A (wX h cA by_ ln pl tk tp (nI n) may hd fi un sz2 may2 hd2 fi2 un2 on asd io ia kept tr) sz) := by
  refine Met.ofW (cc := cX2_type) (maxL := 5) (ret := (some .int)) (by decide) rfl ?_
  intro p e s m args below meth c s₁ B hml hv
  obtain ⟨rfl, hsz, hP, hK, hD, hN⟩ := hv
  have hx := B.exec
  have hb := B.bytes
  have hr := B.returns
  have hts := atoms_spec (ws := wsX2_type) B.pre
  have hown : s.vm.findClass RX2 = some m.cls := findClass_of_methodNamed B.named
  have hlocks := B.notSynchronized
  have hinX1 : ∀ w ∈ wsX10, w ∈ wsX2_type := fun w h => List.mem_cons_of_mem _ (List.mem_append_right _ h)
  have hinX2 : ∀ w ∈ wsX20, w ∈ wsX2_type := fun w h => List.mem_cons_of_mem _ (List.mem_append_left _ (List.mem_append_right _ h))
  subst hsz
  replace hD := hD.self (sz := s.heap.size)
  generalize hAe : va_A (wX h cA by_ ln pl tk tp (nI n) may hd fi un sz2 may2 hd2 fi2 un2 on asd io ia kept tr) s.heap.size = A at hD ⊢
  have hA : ∀ q : Nat, s.heap.size ≤ q → A q := fun q h => by rw [← hAe]; exact Or.inr h
  have hS : va_S A s.heap s.heap [] := va_S.rf
  have hl := lv_entry ([.ref (h 0), .long v, .int n0]) (n := 5) (Nat.le_of_ble_eq_true rfl)
  rw [lg_entry_eq]
  generalize (lg_sl ([.ref (h 0), .long v, .int n0]) ++ List.replicate (5 - (lg_sl ([.ref (h 0), .long v, .int n0])).length) Slot.unset).toArray = ls at hl ⊢
  replace hl : lv_has ls 5 [(0, .ref (h 0)), (1, .long v), (3, .int n0)] := hl
  have hKe := hK.sub (tys' := []) [] rfl
  refine lv_iload_n hx hb dX2_type_0 rfl (lv_at hl 2 rfl) ?_
  refine lv_iconst (v := 1) hx hb dX2_type_1 (by decide) ?_
  refine lv_icmp_lt (tgt := 11) hx hb dX2_type_2 (by decide) (fun c_2_1 => ?_) (fun c_2_1 => ?_)
  · refine lv_iconst (v := (-1)) hx hb dX2_type_11 (by decide) ?_
    exact rw_iret hx hb hr hS hlocks (by_, ln) (show s_X2_type by_ ln v n0 = ((-1), by_, ln) from by (unfold s_X2_type; (try dsimp only); (try rw [if_pos c_2_1]); first | done | with_reducible rfl)).symm hP hD dX2_type_12
  · refine lv_iload_n hx hb dX2_type_5 rfl (lv_at hl 2 rfl) ?_
    refine lv_bipush (v := 8) hx hb dX2_type_6 (by decide) ?_
    refine lv_icmp_le (tgt := 13) hx hb dX2_type_8 (by decide) (fun c_8_2 => ?_) (fun c_8_2 => ?_)
    · have hnn : ty_ok n0 := ty_of c_2_1 c_8_2
      refine lv_aload_n hx hb dX2_type_13 rfl (lv_at hl 0 rfl) ?_
      refine va_get (D := D) (ci := 2) (v := .ref (h 1)) (C := RX2) (T := TX2) (N := 9) hx hb hts hinX2 hown hK hP 0 rfl rfl 0 (by decide) (hts (.fieldLink RX2 10 "HoldUnless" "text" "LHoldUnless$Text;") (by decide +kernel)) (fun _ h9 => h9) rfl dX2_type_14 ?_
      refine va_getN (D := D) (ci := 1) (v := .int ln) (C := RX1) (T := TX1) (N := 5) hx hb hts hinX1 hown hK hP 1 rfl rfl 1 (by decide) (hN.use 16 rfl) (fun _ h9 => h9) rfl dX2_type_17 ?_
      refine lv_iload_n hx hb dX2_type_20 rfl (lv_at hl 2 rfl) ?_
      refine lv_iadd hx hb dX2_type_21 ?_
      refine lv_sipush (v := 300) hx hb dX2_type_22 (by decide) ?_
      refine lv_icmp_le (tgt := 31) hx hb dX2_type_25 (by decide) (fun c_25_3 => ?_) (fun c_25_3 => ?_)
      · refine lv_bipush (v := 8) hx hb dX2_type_31 (by decide) ?_
        refine lv_iload_n hx hb dX2_type_33 rfl (lv_at hl 2 rfl) ?_
        refine lv_iconst (v := 1) hx hb dX2_type_34 (by decide) ?_
        refine lv_isub hx hb dX2_type_35 ?_
        refine lv_imul hx hb dX2_type_36 ?_
        refine lv_istore (lv' := [(4, .int (8 * (n0 - 1))), (0, .ref (h 0)), (1, .long v), (3, .int n0)]) hx hb dX2_type_37 hl (by decide) rfl (fun ls hl => ?_)
        have lp39_4 : ∀ (z_4 j39 : Nat), j39 + z_4 = n0.toNatClampNeg → ∀ (sh4 : Int32) (by4 : Nat → Int32) (ln4 : Int32), (sh4, by4, ln4) = itr (f_X2_type_39 v) ((8 * (n0 - 1)), by_, ln) j39 → (sh4 = 8 * (n0 - 1 - nI j39)) → ∀  (H : Heap) (locs : List Loc), va_P D vwCl (wX h cA by4 ln4 pl tk tp (nI n) may hd fi un sz2 may2 hd2 fi2 un2 on asd io ia kept tr) H → va_D A (wX h cA by4 ln4 pl tk tp (nI n) may hd fi un sz2 may2 hd2 fi2 un2 on asd io ia kept tr) → va_S A s.heap H locs → ∀ ls : Array Slot, lv_has ls 5 [(0, .ref (h 0)), (1, .long v), (3, .int n0), (4, .int sh4)] → W p l e (headSpec wsX2_type ({ frames := 1, cells := 0, slots := 0, locals := 21 })).room s m ([.ref (h 0), .long v, .int n0] : List Value).toArray below meth c H locs 0 0 (MQ below (va_Qi (fun (r : Int32) (u : (Nat → Int32) × Int32) => (r, u.1, u.2) = s_X2_type by_ ln v n0) (rwB D (fun u : (Nat → Int32) × Int32 => (wX h cA u.1 u.2 pl tk tp (nI n) may hd fi un sz2 may2 hd2 fi2 un2 on asd io ia kept tr)) A) A) ([.ref (h 0), .long v, .int n0] : List Value).toArray s 0 0 A) (F0 m 39 ls []) := by
          intro z_4
          induction z_4 with
          | zero =>
            intro j39 hj39 sh4 by4 ln4 he39 h4  H locs hP hD hS ls hl
            obtain rfl : n0.toNatClampNeg = j39 := by omega
            refine lv_iload hx hb dX2_type_39 (lv_at hl 3 rfl) ?_
            refine lv_if_lt (tgt := 63) hx hb dX2_type_41 (by decide) (fun _ => ?_) (fun hh_6 => absurd (sh_neg hnn h4) hh_6)
            refine lv_aload_n hx hb dX2_type_63 rfl (lv_at hl 0 rfl) ?_
            refine va_get (D := D) (ci := 2) (v := .ref (h 1)) (C := RX2) (T := TX2) (N := 9) hx hb hts hinX2 hown hK hP 0 rfl rfl 0 (by decide) (hts (.fieldLink RX2 10 "HoldUnless" "text" "LHoldUnless$Text;") (by decide +kernel)) (fun _ h9 => h9) rfl dX2_type_64 ?_
            refine va_getN (D := D) (ci := 1) (v := .int ln4) (C := RX1) (T := TX1) (N := 5) hx hb hts hinX1 hown hK hP 1 rfl rfl 1 (by decide) (hN.use 16 rfl) (fun _ h9 => h9) rfl dX2_type_67 ?_
            exact rw_iret hx hb hr hS hlocks (by4, ln4) (show s_X2_type by_ ln v n0 = (ln4, by4, ln4) from by (unfold s_X2_type; (try dsimp only); (try rw [if_neg c_2_1]); (try rw [if_pos c_8_2]); (try rw [if_pos c_25_3]); (try rw [← he39]); (try dsimp only); first | done | with_reducible rfl)).symm hP hD dX2_type_70
          | succ z_4 ih39 =>
            intro j39 hj39 sh4 by4 ln4 he39 h4  H locs hP hD hS ls hl
            refine lv_iload hx hb dX2_type_39 (lv_at hl 3 rfl) ?_
            refine lv_if_lt (tgt := 63) hx hb dX2_type_41 (by decide) (fun hh_8 => absurd hh_8 (sh_pos hnn h4 (by omega))) (fun _ => ?_)
            refine lv_aload_n hx hb dX2_type_44 rfl (lv_at hl 0 rfl) ?_
            refine va_get (D := D) (ci := 2) (v := .ref (h 1)) (C := RX2) (T := TX2) (N := 9) hx hb hts hinX2 hown hK hP 0 rfl rfl 0 (by decide) (hts (.fieldLink RX2 10 "HoldUnless" "text" "LHoldUnless$Text;") (by decide +kernel)) (fun _ h9 => h9) rfl dX2_type_45 ?_
            refine lv_lload_n hx hb dX2_type_48 rfl (lv_at hl 1 rfl) ?_
            refine lv_iload hx hb dX2_type_49 (lv_at hl 3 rfl) ?_
            refine lv_lshr hx hb dX2_type_51 rfl ?_
            refine lv_l2i hx hb dX2_type_52 rfl ?_
            refine lv_i2b hx hb dX2_type_53 rfl ?_
            have hPc := hP.sub (ws' := (wT (h 1) (h 2) (cA 2) by4 ln4 pl tk tp)) [1, 2] rfl
            have hDc := hD.sub (ws' := (wT (h 1) (h 2) (cA 2) by4 ln4 pl tk tp)) [1, 2] (by decide) rfl
            have hKc := hK.sub (tys' := (tT (h 1) (h 2) (cA 2))) [0] rfl
            have hFc := va_free (wc := (wT (h 1) (h 2) (cA 2) by4 ln4 pl tk tp)) hD hS hA [1, 2] rfl
            refine rw_v (D := D) (wc := (wT (h 1) (h 2) (cA 2) by4 ln4 pl tk tp)) (va_runVN (As := [.int (((((v >>> (((sh4 : Int32).toInt64) &&& 63)) : Int64).toInt32) : Int32).toInt8.toInt32)]) (rest := []) ⟨hx, hb, hml, hown, hts⟩ (c_X1_append l D (h 1) (h 2) (cA 2) by4 ln4 pl tk tp (((((v >>> (((sh4 : Int32).toInt64) &&& 63)) : Int64).toInt32) : Int32).toInt8.toInt32)  _) ⟨(va_cnB 1 hts gX2_type_X1_append_n37 rfl rfl rfl (hN.nw 2 rfl) (hts (.initialized RX1) (by decide +kernel)) (by decide +kernel) ⟨Nat.le_of_ble_eq_true rfl, Nat.le_of_ble_eq_true rfl⟩), hts (.instanceMethod yX1_append) (by decide +kernel), hts (.selects RX1 yX1_append yX1_append) (by decide +kernel)⟩ ⟨cPre.blind, va_recv hKc hPc (ci := 1) (q0 := 0) rfl rfl, cPre.mk hPc hKc hDc hN⟩ rfl rfl hl.1 rfl (lv_room (Nat.le_of_ble_eq_true rfl)) dX2_type_54 ⟨Nat.zero_le _, Nat.zero_le _⟩) hS hFc (fun u H1 locs hw_12 hP1 hD1 hk1 hS => ?_)
            obtain ⟨by_v_9, lnv_10⟩ := u
            try dsimp only at hw_12
            obtain ⟨hP2, hD2⟩ := va_join (wr := [((h 0), .inr (2, [.ref (h 1), .ref (h 3), .ref (h 7), .int on, .int asd, .ref (h 11), .ref (h 12), .int kept, .long tr])), ((h 3), .inr (0, [.int (nI n), .int may, .ref (h 4), .ref (h 5), .ref (h 6)])), ((h 4), .inl ((cA 4), 10, .inl hd)), ((h 5), .inl ((cA 5), 10, .inl fi)), ((h 6), .inl ((cA 6), 10, .inl un)), ((h 7), .inr (0, [.int sz2, .int may2, .ref (h 8), .ref (h 9), .ref (h 10)])), ((h 8), .inl ((cA 8), 10, .inl hd2)), ((h 9), .inl ((cA 9), 10, .inl fi2)), ((h 10), .inl ((cA 10), 10, .inl un2)), ((h 11), .inl ((cA 11), 2, .inl io)), ((h 12), .inl ((cA 12), 2, .inl ia))]) (w1 := (wT (h 1) (h 2) (cA 2) by_v_9 lnv_10 pl tk tp)) hP hD [1, 2] [0, 3, 4, 5, 6, 7, 8, 9, 10, 11, 12] rfl rfl (by decide) (by decide) hk1 hFc hP1 hD1
            have hP := hP2.sub (ws' := (wX h cA by_v_9 lnv_10 pl tk tp (nI n) may hd fi un sz2 may2 hd2 fi2 un2 on asd io ia kept tr)) [0, 11, 12, 1, 2, 3, 4, 5, 6, 7, 8, 9, 10] rfl
            have hD := hD2.sub (ws' := (wX h cA by_v_9 lnv_10 pl tk tp (nI n) may hd fi un sz2 may2 hd2 fi2 un2 on asd io ia kept tr)) [0, 11, 12, 1, 2, 3, 4, 5, 6, 7, 8, 9, 10] (by decide) rfl
            clear hP1 hD1 hFc hk1
            generalize H1 = H at hP hS ⊢
            refine lv_iinc (v := (sh4 + (-8))) (lv' := [(4, .int (sh4 + (-8))), (0, .ref (h 0)), (1, .long v), (3, .int n0)]) hx hb dX2_type_57 hl (k := 3) rfl rfl (by decide) rfl (fun ls hl => ?_)
            refine lv_goto (tgt := 39) hx hb dX2_type_60 (by decide) ?_
            exact ih39 (j39 + 1) (by omega) (sh4 + (-8)) by_v_9 lnv_10 (itr_step he39 (by (unfold f_X2_type_39; (try dsimp only); (try rw [← hw_12]); (try dsimp only); first | done | with_reducible rfl))) (sh_step h4)  _ _ hP hD hS _ (lv_sub hl [1, 2, 3, 0] rfl)
        exact lp39_4 n0.toNatClampNeg 0 (by omega) (8 * (n0 - 1)) by_ ln (itr_zero _ _).symm (by rw [nI_0, Int32.sub_zero])  _ _ hP hD hS _ (lv_sub hl [1, 2, 3, 0] rfl)
      · refine lv_bipush (v := (-3)) hx hb dX2_type_28 (by decide) ?_
        exact rw_iret hx hb hr hS hlocks (by_, ln) (show s_X2_type by_ ln v n0 = ((-3), by_, ln) from by (unfold s_X2_type; (try dsimp only); (try rw [if_neg c_2_1]); (try rw [if_pos c_8_2]); (try rw [if_neg c_25_3]); first | done | with_reducible rfl)).symm hP hD dX2_type_30
    · refine lv_iconst (v := (-1)) hx hb dX2_type_11 (by decide) ?_
      exact rw_iret hx hb hr hS hlocks (by_, ln) (show s_X2_type by_ ln v n0 = ((-1), by_, ln) from by (unfold s_X2_type; (try dsimp only); (try rw [if_neg c_2_1]); (try rw [if_neg c_8_2]); first | done | with_reducible rfl)).symm hP hD dX2_type_12

def f_X2_standsWith_9 (n : Nat) (may : Int32) (hd : Nat → Int32) (fi : Nat → Int32) (un : Nat → Int32) (on : Int32) (a : Int32) (facts : Int32) (j9 : Nat) (st : Int32) : Int32 ⊕ (Int32) := match st with | s4 => (if 255 < s4 then (.inl 0) else (if (s_X0_upholds n may hd fi un s4 on facts) = 0 then (.inr ((s4 + (1 : Int32)) ||| (facts ||| (1 <<< (a &&& 31))))) else (.inl 1)))
def s_X2_standsWith (n : Nat) (may : Int32) (hd : Nat → Int32) (fi : Nat → Int32) (un : Nat → Int32) (on : Int32) (a : Int32) (facts : Int32) : Int32 := (onE (itE (f_X2_standsWith_9 n may hd fi un on a facts) (facts ||| (1 <<< (a &&& 31))) 256) (fun st => match st with | s4 => 0))
set_option maxHeartbeats 4000000 in
set_option maxRecDepth 100000 in
theorem c_X2_standsWith (l : Launch) (D : va_G) (h : Nat → Nat) (cA : Nat → ClassId) (n : Nat) (by_ : Nat → Int32) (ln : Int32) (pl : Int32) (tk : Int32) (tp : Int32) (may : Int32) (hd : Nat → Int32) (fi : Nat → Int32) (un : Nat → Int32) (sz2 : Int32) (may2 : Int32) (hd2 : Nat → Int32) (fi2 : Nat → Int32) (un2 : Nat → Int32) (on : Int32) (asd : Int32) (io : Nat → Int32) (ia : Nat → Int32) (kept : Int32) (tr : Int64) (a : Int32) (facts : Int32) (hn : n ≤ 10) (hsw : sw_ok a facts) (sz : Nat) : Met l yX2_standsWith wsX2_standsWith ({ frames := 4, cells := 0, slots := 0, locals := 97 }) (va_Pc [.ref (h 0), .int a, .int facts] (cPre D (tX h cA) (wX h cA by_ ln pl tk tp (nI n) may hd fi un sz2 may2 hd2 fi2 un2 on asd io ia kept tr) sz)) (va_Qi (fun r (_ : Unit) => r = s_X2_standsWith n may hd fi un on a facts) (fun _ _ => True) (fun q => sz ≤ q)) 0 0 (fun q => sz ≤ q) := by
  refine Met.ofW (cc := cX2_standsWith) (maxL := 5) (ret := (some .boolean)) (by decide) rfl ?_
  intro p e s m args below meth c s₁ B hml hv
  obtain ⟨rfl, hsz, hP, hK, hD, hN⟩ := hv
  have hx := B.exec
  have hb := B.bytes
  have hr := B.returns
  have hts := atoms_spec (ws := wsX2_standsWith) B.pre
  have hown : s.vm.findClass RX2 = some m.cls := findClass_of_methodNamed B.named
  have hlocks := B.notSynchronized
  have hinX2 : ∀ w ∈ wsX20, w ∈ wsX2_standsWith := fun w h => List.mem_cons_of_mem _ (List.mem_append_left _ (List.mem_append_right _ h))
  subst hsz
  obtain ⟨A, hAe⟩ : ∃ A : Nat → Prop, A = (fun q : Nat => s.heap.size ≤ q) := ⟨_, rfl⟩
  have hA : ∀ q : Nat, s.heap.size ≤ q → A q := fun q h => by rw [hAe]; exact h
  have hS : va_S A s.heap s.heap [] := va_S.rf
  subst hAe
  have hl := lv_entry ([.ref (h 0), .int a, .int facts]) (n := 5) (Nat.le_of_ble_eq_true rfl)
  rw [lg_entry_eq]
  generalize (lg_sl ([.ref (h 0), .int a, .int facts]) ++ List.replicate (5 - (lg_sl ([.ref (h 0), .int a, .int facts])).length) Slot.unset).toArray = ls at hl ⊢
  replace hl : lv_has ls 5 [(0, .ref (h 0)), (1, .int a), (2, .int facts)] := hl
  have hKe := hK.sub (tys' := []) [] rfl
  refine lv_iload_n hx hb dX2_standsWith_0 rfl (lv_at hl 2 rfl) ?_
  refine lv_iconst (v := 1) hx hb dX2_standsWith_1 (by decide) ?_
  refine lv_iload_n hx hb dX2_standsWith_2 rfl (lv_at hl 1 rfl) ?_
  refine lv_ishl hx hb dX2_standsWith_3 ?_
  refine lv_ior hx hb dX2_standsWith_4 ?_
  refine lv_istore_n (lv' := [(3, .int (facts ||| (1 <<< (a &&& 31)))), (0, .ref (h 0)), (1, .int a), (2, .int facts)]) hx hb dX2_standsWith_5 rfl hl (by decide) rfl (fun ls hl => ?_)
  refine lv_iload_n hx hb dX2_standsWith_6 rfl (lv_at hl 0 rfl) ?_
  refine lv_istore (lv' := [(4, .int (facts ||| (1 <<< (a &&& 31)))), (3, .int (facts ||| (1 <<< (a &&& 31)))), (0, .ref (h 0)), (1, .int a), (2, .int facts)]) hx hb dX2_standsWith_7 hl (by decide) rfl (fun ls hl => ?_)
  have lp9_1 : ∀ (z_1 j9 : Nat), j9 + z_1 = 256 → ∀ (s4 : Int32), itE (f_X2_standsWith_9 n may hd fi un on a facts) (facts ||| (1 <<< (a &&& 31))) j9 = .inr s4 → (sw_in s4 j9) → ∀  (H : Heap) (locs : List Loc), va_P D vwCl (wX h cA by_ ln pl tk tp (nI n) may hd fi un sz2 may2 hd2 fi2 un2 on asd io ia kept tr) H → va_S (fun q : Nat => s.heap.size ≤ q) s.heap H locs → ∀ ls : Array Slot, lv_has ls 5 [(0, .ref (h 0)), (1, .int a), (2, .int facts), (3, .int (facts ||| (1 <<< (a &&& 31)))), (4, .int s4)] → W p l e (headSpec wsX2_standsWith ({ frames := 4, cells := 0, slots := 0, locals := 97 })).room s m ([.ref (h 0), .int a, .int facts] : List Value).toArray below meth c H locs 0 0 (MQ below (va_Qi (fun r (_ : Unit) => r = s_X2_standsWith n may hd fi un on a facts) (fun _ _ => True) (fun q => s.heap.size ≤ q)) ([.ref (h 0), .int a, .int facts] : List Value).toArray s 0 0 (fun q => s.heap.size ≤ q)) (F0 m 9 ls []) := by
    intro z_1
    induction z_1 with
    | zero =>
      intro j9 hj9 s4 he9 h4  H locs hP hS ls hl
      obtain rfl : 256 = j9 := by omega
      refine lv_iload hx hb dX2_standsWith_9 (lv_at hl 4 rfl) ?_
      refine lv_sipush (v := 255) hx hb dX2_standsWith_11 (by decide) ?_
      refine lv_icmp_gt (tgt := 47) hx hb dX2_standsWith_14 (by decide) (fun _ => ?_) (fun hh_3 => absurd (sw_big h4) hh_3)
      refine lv_iconst (v := 0) hx hb dX2_standsWith_47 (by decide) ?_
      exact ro_zret hx hb hr hS hlocks (show s_X2_standsWith n may hd fi un on a facts = 0 from by (unfold s_X2_standsWith; (try dsimp only); (try rw [he9]); (try dsimp only [onE]); first | done | with_reducible rfl)).symm (by decide +kernel) dX2_standsWith_48
    | succ z_1 ih9 =>
      intro j9 hj9 s4 he9 h4  H locs hP hS ls hl
      refine lv_iload hx hb dX2_standsWith_9 (lv_at hl 4 rfl) ?_
      refine lv_sipush (v := 255) hx hb dX2_standsWith_11 (by decide) ?_
      refine lv_icmp_gt (tgt := 47) hx hb dX2_standsWith_14 (by decide) (fun c_14_4 => ?_) (fun c_14_4 => ?_)
      · refine lv_iconst (v := 0) hx hb dX2_standsWith_47 (by decide) ?_
        have hs_5 : itE (f_X2_standsWith_9 n may hd fi un on a facts) (facts ||| (1 <<< (a &&& 31))) (j9 + 1) = (.inl 0) := itE_succ he9 (by (unfold f_X2_standsWith_9; (try dsimp only); (try rw [if_pos c_14_4]); first | done | with_reducible rfl))
        have hn_6 := itE_stop hs_5 256 (by omega)
        exact ro_zret hx hb hr hS hlocks (show s_X2_standsWith n may hd fi un on a facts = 0 from by (unfold s_X2_standsWith; (try dsimp only); (try rw [hn_6]); (try dsimp only [onE]); first | done | with_reducible rfl)).symm (by decide +kernel) dX2_standsWith_48
      · refine lv_aload_n hx hb dX2_standsWith_17 rfl (lv_at hl 0 rfl) ?_
        refine va_get (D := D) (ci := 2) (v := .ref (h 3)) (C := RX2) (T := TX2) (N := 9) hx hb hts hinX2 hown hK hP 0 rfl rfl 1 (by decide) (hts (.fieldLink RX2 19 "HoldUnless" "book" "LHoldUnless$RuleBook;") (by decide +kernel)) (fun _ h9 => h9) rfl dX2_standsWith_18 ?_
        refine lv_iload hx hb dX2_standsWith_21 (lv_at hl 4 rfl) ?_
        refine lv_aload_n hx hb dX2_standsWith_23 rfl (lv_at hl 0 rfl) ?_
        refine va_get (D := D) (ci := 2) (v := .int on) (C := RX2) (T := TX2) (N := 9) hx hb hts hinX2 hown hK hP 0 rfl rfl 3 (by decide) (hts (.fieldLink RX2 51 "HoldUnless" "on" "I") (by decide +kernel)) (fun _ h9 => h9) rfl dX2_standsWith_24 ?_
        refine lv_iload_n hx hb dX2_standsWith_27 rfl (lv_at hl 2 rfl) ?_
        have hPc := hP.sub (ws' := (wB (h 3) (h 4) (h 5) (h 6) (cA 4) (cA 5) (cA 6) (nI n) may hd fi un)) [3, 4, 5, 6] rfl
        have hDc := hD.sub (ws' := (wB (h 3) (h 4) (h 5) (h 6) (cA 4) (cA 5) (cA 6) (nI n) may hd fi un)) [3, 4, 5, 6] (by decide) rfl
        have hKc := hK.sub (tys' := (tB (h 3) (h 4) (h 5) (h 6) (cA 4) (cA 5) (cA 6))) [1, 2, 3] rfl
        refine ro_i (D := D) (va_runVN (As := [.int s4, .int on, .int facts]) (rest := []) ⟨hx, hb, hml, hown, hts⟩ (c_X0_upholds l D (h 3) (h 4) (h 5) (h 6) (cA 4) (cA 5) (cA 6) n may hd fi un s4 on facts (by first | assumption | omega) _) ⟨(va_cnB 3 hts gX2_standsWith_X0_upholds_n87 rfl rfl rfl (hN.nw 8 rfl) (hts (.initialized RX0) (by decide +kernel)) (by decide +kernel) ⟨Nat.le_of_ble_eq_true rfl, Nat.le_of_ble_eq_true rfl⟩), hts (.instanceMethod yX0_upholds) (by decide +kernel), hts (.selects RX0 yX0_upholds yX0_upholds) (by decide +kernel)⟩ ⟨cPre.blind, va_recv hKc hPc (ci := 0) (q0 := 0) rfl rfl, cPre.mk hPc hKc hDc hN⟩ rfl rfl hl.1 rfl (lv_room (Nat.le_of_ble_eq_true rfl)) dX2_standsWith_28 ⟨Nat.zero_le _, Nat.zero_le _⟩) hS hA (fun H locs hkp0 hS => ?_)
        replace hP := hkp0 _ hP
        refine lv_if_eq (tgt := 36) hx hb dX2_standsWith_31 (by decide) (fun c_31_7 => ?_) (fun c_31_7 => ?_)
        · refine lv_iload hx hb dX2_standsWith_36 (lv_at hl 4 rfl) ?_
          refine lv_iconst (v := 1) hx hb dX2_standsWith_38 (by decide) ?_
          refine lv_iadd hx hb dX2_standsWith_39 ?_
          refine lv_cv rfl ?_
          refine lv_iload_n hx hb dX2_standsWith_40 rfl (lv_at hl 3 rfl) ?_
          refine lv_ior hx hb dX2_standsWith_41 ?_
          refine lv_istore (lv' := [(4, .int ((s4 + (1 : Int32)) ||| (facts ||| (1 <<< (a &&& 31))))), (0, .ref (h 0)), (1, .int a), (2, .int facts), (3, .int (facts ||| (1 <<< (a &&& 31))))]) hx hb dX2_standsWith_42 hl (by decide) rfl (fun ls hl => ?_)
          refine lv_goto (tgt := 9) hx hb dX2_standsWith_44 (by decide) ?_
          exact ih9 (j9 + 1) (by omega) ((s4 + (1 : Int32)) ||| (facts ||| (1 <<< (a &&& 31)))) (itE_succ he9 (by (unfold f_X2_standsWith_9; (try dsimp only); (try rw [if_neg c_14_4]); (try rw [if_pos c_31_7]); first | done | with_reducible rfl))) (sw_step hsw h4 c_14_4)  _ _ hP hS _ (lv_sub hl [1, 2, 3, 4, 0] rfl)
        · refine lv_iconst (v := 1) hx hb dX2_standsWith_34 (by decide) ?_
          have hs_8 : itE (f_X2_standsWith_9 n may hd fi un on a facts) (facts ||| (1 <<< (a &&& 31))) (j9 + 1) = (.inl 1) := itE_succ he9 (by (unfold f_X2_standsWith_9; (try dsimp only); (try rw [if_neg c_14_4]); (try rw [if_neg c_31_7]); first | done | with_reducible rfl))
          have hn_9 := itE_stop hs_8 256 (by omega)
          exact ro_zret hx hb hr hS hlocks (show s_X2_standsWith n may hd fi un on a facts = 1 from by (unfold s_X2_standsWith; (try dsimp only); (try rw [hn_9]); (try dsimp only [onE]); first | done | with_reducible rfl)).symm (by decide +kernel) dX2_standsWith_35
  exact lp9_1 256 0 (by omega) (facts ||| (1 <<< (a &&& 31))) (itE_zero _ _) (sw_init hsw)  _ _ hP hS _ (lv_sub hl [2, 3, 4, 1, 0] rfl)

def f_X2_explains_26 (n : Nat) (may : Int32) (hd : Nat → Int32) (fi : Nat → Int32) (un : Nat → Int32) (on : Int32) (asd : Int32) (a : Int32) (sme : Int32) (j18 : Nat) (j26 : Nat) (st : Unit) : (Int32 ⊕ (Unit)) ⊕ (Unit) := (if ((nI j26) &&& (sme ^^^ (-1))) = 0 then (if (s_J6_bitCount_0f7a4 (nI j26)) = (nI j18) then (if (s_X2_standsWith n may hd fi un on a (asd ||| (nI j26))) = 0 then (.inr ()) else (.inl (.inl (nI j26)))) else (.inr ())) else (.inr ()))
def f_X2_explains_18 (n : Nat) (may : Int32) (hd : Nat → Int32) (fi : Nat → Int32) (un : Nat → Int32) (on : Int32) (asd : Int32) (a : Int32) (sme : Int32) (j18 : Nat) (st : Unit) : Int32 ⊕ (Unit) := (onE (itE (f_X2_explains_26 n may hd fi un on asd a sme j18) () (sme.toNatClampNeg + 1)) (fun st => match st with | () => (.inr ())))
def s_X2_explains (n : Nat) (may : Int32) (hd : Nat → Int32) (fi : Nat → Int32) (un : Nat → Int32) (on : Int32) (asd : Int32) (a : Int32) (sme : Int32) : Int32 := (if (s_X2_isSentence a) = 0 then (-1) else (if (s_X2_isSet sme) = 0 then (-1) else (onE (itE (f_X2_explains_18 n may hd fi un on asd a sme) () 4) (fun st => match st with | () => (-9)))))
set_option maxHeartbeats 4000000 in
set_option maxRecDepth 100000 in
theorem c_X2_explains (l : Launch) (D : va_G) (h : Nat → Nat) (cA : Nat → ClassId) (n : Nat) (by_ : Nat → Int32) (ln : Int32) (pl : Int32) (tk : Int32) (tp : Int32) (may : Int32) (hd : Nat → Int32) (fi : Nat → Int32) (un : Nat → Int32) (sz2 : Int32) (may2 : Int32) (hd2 : Nat → Int32) (fi2 : Nat → Int32) (un2 : Nat → Int32) (on : Int32) (asd : Int32) (io : Nat → Int32) (ia : Nat → Int32) (kept : Int32) (tr : Int64) (a : Int32) (sme : Int32) (hn : n ≤ 10) (hasd : vp_in asd 256) (sz : Nat) : Met l yX2_explains wsX2_explains ({ frames := 5, cells := 0, slots := 0, locals := 121 }) (va_Pc [.ref (h 0), .int a, .int sme] (cPre D (tX h cA) (wX h cA by_ ln pl tk tp (nI n) may hd fi un sz2 may2 hd2 fi2 un2 on asd io ia kept tr) sz)) (va_Qi (fun r (_ : Unit) => r = s_X2_explains n may hd fi un on asd a sme) (fun _ _ => True) (fun q => sz ≤ q)) 0 0 (fun q => sz ≤ q) := by
  refine Met.ofW (cc := cX2_explains) (maxL := 6) (ret := (some .int)) (by decide) rfl ?_
  intro p e s m args below meth c s₁ B hml hv
  obtain ⟨rfl, hsz, hP, hK, hD, hN⟩ := hv
  have hx := B.exec
  have hb := B.bytes
  have hr := B.returns
  have hts := atoms_spec (ws := wsX2_explains) B.pre
  have hown : s.vm.findClass RX2 = some m.cls := findClass_of_methodNamed B.named
  have hlocks := B.notSynchronized
  have hinX2 : ∀ w ∈ wsX20, w ∈ wsX2_explains := fun w h => List.mem_cons_of_mem _ (List.mem_append_left _ (List.mem_append_right _ h))
  subst hsz
  obtain ⟨A, hAe⟩ : ∃ A : Nat → Prop, A = (fun q : Nat => s.heap.size ≤ q) := ⟨_, rfl⟩
  have hA : ∀ q : Nat, s.heap.size ≤ q → A q := fun q h => by rw [hAe]; exact h
  have hS : va_S A s.heap s.heap [] := va_S.rf
  subst hAe
  have hl := lv_entry ([.ref (h 0), .int a, .int sme]) (n := 6) (Nat.le_of_ble_eq_true rfl)
  rw [lg_entry_eq]
  generalize (lg_sl ([.ref (h 0), .int a, .int sme]) ++ List.replicate (6 - (lg_sl ([.ref (h 0), .int a, .int sme])).length) Slot.unset).toArray = ls at hl ⊢
  replace hl : lv_has ls 6 [(0, .ref (h 0)), (1, .int a), (2, .int sme)] := hl
  have hKe := hK.sub (tys' := []) [] rfl
  refine lv_iload_n hx hb dX2_explains_0 rfl (lv_at hl 1 rfl) ?_
  refine ro_i (D := D) (va_runS (As := [.int a]) (rest := []) ⟨hx, hb, hml, hown, hts⟩ (c_X2_isSentence l D a  _) (va_cwS 1 hts gX2_explains_X2_isSentence rfl rfl rfl (by decide +kernel) ⟨Nat.le_of_ble_eq_true rfl, Nat.le_of_ble_eq_true rfl⟩) ⟨cPre.blind, cPre.mk vP0 hKe vD0 hN⟩ rfl rfl hl.1 rfl (lv_room (Nat.le_of_ble_eq_true rfl)) dX2_explains_1 ⟨Nat.zero_le _, Nat.zero_le _⟩) hS hA (fun H locs hkp0 hS => ?_)
  replace hP := hkp0 _ hP
  refine lv_if_eq (tgt := 14) hx hb dX2_explains_4 (by decide) (fun c_4_1 => ?_) (fun c_4_1 => ?_)
  · refine lv_iconst (v := (-1)) hx hb dX2_explains_14 (by decide) ?_
    exact ro_iret hx hb hr hS hlocks (show s_X2_explains n may hd fi un on asd a sme = (-1) from by (unfold s_X2_explains; (try dsimp only); (try rw [if_pos c_4_1]); first | done | with_reducible rfl)).symm dX2_explains_15
  · refine lv_iload_n hx hb dX2_explains_7 rfl (lv_at hl 2 rfl) ?_
    refine ro_i (D := D) (va_runS (As := [.int sme]) (rest := []) ⟨hx, hb, hml, hown, hts⟩ (c_X2_isSet l D sme  _) (va_cwS 1 hts gX2_explains_X2_isSet rfl rfl rfl (by decide +kernel) ⟨Nat.le_of_ble_eq_true rfl, Nat.le_of_ble_eq_true rfl⟩) ⟨cPre.blind, cPre.mk vP0 hKe vD0 hN⟩ rfl rfl hl.1 rfl (lv_room (Nat.le_of_ble_eq_true rfl)) dX2_explains_8 ⟨Nat.zero_le _, Nat.zero_le _⟩) hS hA (fun H locs hkp0 hS => ?_)
    replace hP := hkp0 _ hP
    refine lv_if_ne (tgt := 16) hx hb dX2_explains_11 (by decide) (fun c_11_2 => ?_) (fun c_11_2 => ?_)
    · have hsm : sm_ok sme := sm_of (vp_set c_11_2) (by decide)
      have hsm2 : sme.toNatClampNeg ≤ 255 := sm_le (vp_set c_11_2)
      refine lv_iconst (v := 0) hx hb dX2_explains_16 (by decide) ?_
      refine lv_istore_n (lv' := [(3, .int 0), (0, .ref (h 0)), (1, .int a), (2, .int sme)]) hx hb dX2_explains_17 rfl hl (by decide) rfl (fun ls hl => ?_)
      have lp18_3 : ∀ (z_3 j18 : Nat), j18 + z_3 = 4 → ∀ (_ : Unit), itE (f_X2_explains_18 n may hd fi un on asd a sme) () j18 = .inr () → ∀  (H : Heap) (locs : List Loc), va_P D vwCl (wX h cA by_ ln pl tk tp (nI n) may hd fi un sz2 may2 hd2 fi2 un2 on asd io ia kept tr) H → va_S (fun q : Nat => s.heap.size ≤ q) s.heap H locs → ∀ ls : Array Slot, lv_has ls 6 [(0, .ref (h 0)), (1, .int a), (2, .int sme), (3, .int (nI j18))] → W p l e (headSpec wsX2_explains ({ frames := 5, cells := 0, slots := 0, locals := 121 })).room s m ([.ref (h 0), .int a, .int sme] : List Value).toArray below meth c H locs 0 0 (MQ below (va_Qi (fun r (_ : Unit) => r = s_X2_explains n may hd fi un on asd a sme) (fun _ _ => True) (fun q => s.heap.size ≤ q)) ([.ref (h 0), .int a, .int sme] : List Value).toArray s 0 0 (fun q => s.heap.size ≤ q)) (F0 m 18 ls []) := by
        intro z_3
        induction z_3 with
        | zero =>
          intro j18 hj18 _ he18   H locs hP hS ls hl
          obtain rfl : 4 = j18 := by omega
          refine lv_iload_n hx hb dX2_explains_18 rfl (lv_at hl 3 rfl) ?_
          refine lv_iconst (v := 3) hx hb dX2_explains_19 (by decide) ?_
          refine lv_icmp_gt (tgt := 92) hx hb dX2_explains_20 (by decide) (fun _ => ?_) (fun hh_5 => absurd (nI_lt (a := 3) (b := 4) (by omega) (by omega)) hh_5)
          refine lv_bipush (v := (-9)) hx hb dX2_explains_92 (by decide) ?_
          exact ro_iret hx hb hr hS hlocks (show s_X2_explains n may hd fi un on asd a sme = (-9) from by (unfold s_X2_explains; (try dsimp only); (try rw [if_neg c_4_1]); (try rw [if_neg c_11_2]); (try rw [he18]); (try dsimp only [onE]); first | done | with_reducible rfl)).symm dX2_explains_94
        | succ z_3 ih18 =>
          intro j18 hj18 _ he18   H locs hP hS ls hl
          refine lv_iload_n hx hb dX2_explains_18 rfl (lv_at hl 3 rfl) ?_
          refine lv_iconst (v := 3) hx hb dX2_explains_19 (by decide) ?_
          refine lv_icmp_gt (tgt := 92) hx hb dX2_explains_20 (by decide) (fun hh_7 => absurd hh_7 (nI_nlt (a := 3) (b := j18) (by omega) (by omega))) (fun _ => ?_)
          refine lv_iconst (v := 0) hx hb dX2_explains_23 (by decide) ?_
          refine lv_istore (lv' := [(4, .int 0), (0, .ref (h 0)), (1, .int a), (2, .int sme), (3, .int (nI j18))]) hx hb dX2_explains_24 hl (by decide) rfl (fun ls hl => ?_)
          have lp26_8 : ∀ (z_8 j26 : Nat), j26 + z_8 = sme.toNatClampNeg + 1 → ∀ (_ : Unit), itE (f_X2_explains_26 n may hd fi un on asd a sme j18) () j26 = .inr () → ∀  (H : Heap) (locs : List Loc), va_P D vwCl (wX h cA by_ ln pl tk tp (nI n) may hd fi un sz2 may2 hd2 fi2 un2 on asd io ia kept tr) H → va_S (fun q : Nat => s.heap.size ≤ q) s.heap H locs → ∀ ls : Array Slot, lv_has ls 6 [(0, .ref (h 0)), (1, .int a), (2, .int sme), (3, .int (nI j18)), (4, .int (nI j26))] → W p l e (headSpec wsX2_explains ({ frames := 5, cells := 0, slots := 0, locals := 121 })).room s m ([.ref (h 0), .int a, .int sme] : List Value).toArray below meth c H locs 0 0 (MQ below (va_Qi (fun r (_ : Unit) => r = s_X2_explains n may hd fi un on asd a sme) (fun _ _ => True) (fun q => s.heap.size ≤ q)) ([.ref (h 0), .int a, .int sme] : List Value).toArray s 0 0 (fun q => s.heap.size ≤ q)) (F0 m 26 ls []) := by
            intro z_8
            induction z_8 with
            | zero =>
              intro j26 hj26 _ he26   H locs hP hS ls hl
              obtain rfl : sme.toNatClampNeg + 1 = j26 := by omega
              refine lv_iload hx hb dX2_explains_26 (lv_at hl 4 rfl) ?_
              refine lv_iload_n hx hb dX2_explains_28 rfl (lv_at hl 2 rfl) ?_
              refine lv_icmp_gt (tgt := 86) hx hb dX2_explains_29 (by decide) (fun _ => ?_) (fun hh_10 => absurd (sm_lt hsm) hh_10)
              refine lv_iinc (v := nI (j18 + 1)) (lv' := [(3, .int (nI (j18 + 1))), (0, .ref (h 0)), (1, .int a), (2, .int sme), (4, .int (nI (sme.toNatClampNeg + 1)))]) hx hb dX2_explains_86 hl (k := 3) rfl (inc_nI j18) (by decide) rfl (fun ls hl => ?_)
              refine lv_goto (tgt := 18) hx hb dX2_explains_89 (by decide) ?_
              exact ih18 (j18 + 1) (by omega) () (itE_succ he18 (by (unfold f_X2_explains_18; (try dsimp only); (try rw [he26]); (try dsimp only [onE]); first | done | with_reducible rfl)))   _ _ hP hS _ (lv_sub hl [1, 2, 3, 0] rfl)
            | succ z_8 ih26 =>
              intro j26 hj26 _ he26   H locs hP hS ls hl
              refine lv_iload hx hb dX2_explains_26 (lv_at hl 4 rfl) ?_
              refine lv_iload_n hx hb dX2_explains_28 rfl (lv_at hl 2 rfl) ?_
              refine lv_icmp_gt (tgt := 86) hx hb dX2_explains_29 (by decide) (fun hh_12 => absurd hh_12 (sm_nlt hsm (by omega))) (fun _ => ?_)
              refine lv_iload hx hb dX2_explains_32 (lv_at hl 4 rfl) ?_
              refine lv_iload_n hx hb dX2_explains_34 rfl (lv_at hl 2 rfl) ?_
              refine lv_iconst (v := (-1)) hx hb dX2_explains_35 (by decide) ?_
              refine lv_ixor hx hb dX2_explains_36 ?_
              refine lv_iand hx hb dX2_explains_37 ?_
              refine lv_if_ne (tgt := 54) hx hb dX2_explains_38 (by decide) (fun c_38_13 => ?_) (fun c_38_13 => ?_)
              · refine lv_iconst (v := 0) hx hb dX2_explains_54 (by decide) ?_
                refine lv_istore (lv' := [(5, .int 0), (0, .ref (h 0)), (1, .int a), (2, .int sme), (3, .int (nI j18)), (4, .int (nI j26))]) hx hb dX2_explains_55 hl (by decide) rfl (fun ls hl => ?_)
                refine lv_iload hx hb dX2_explains_57 (lv_at hl 0 rfl) ?_
                refine lv_if_eq (tgt := 80) hx hb dX2_explains_59 (by decide) (fun _ => ?_) (fun hh_15 => absurd (by decide) hh_15)
                refine lv_iinc (v := nI (j26 + 1)) (lv' := [(4, .int (nI (j26 + 1))), (5, .int 0), (0, .ref (h 0)), (1, .int a), (2, .int sme), (3, .int (nI j18))]) hx hb dX2_explains_80 hl (k := 5) rfl (inc_nI j26) (by decide) rfl (fun ls hl => ?_)
                refine lv_goto (tgt := 26) hx hb dX2_explains_83 (by decide) ?_
                exact ih26 (j26 + 1) (by omega) () (itE_succ he26 (by (unfold f_X2_explains_26; (try dsimp only); (try rw [if_neg c_38_13]); first | done | with_reducible rfl)))   _ _ hP hS _ (lv_sub hl [2, 3, 4, 5, 0] rfl)
              · refine lv_iload hx hb dX2_explains_41 (lv_at hl 4 rfl) ?_
                refine ro_i (D := D) (va_runS (As := [.int (nI j26)]) (rest := []) ⟨hx, hb, hml, hown, hts⟩ (c_J6_bitCount_0f7a4 l D (nI j26)  _) (va_cwS 1 hts gX2_explains_J6_bitCount_0f7a4 rfl rfl rfl (by decide +kernel) ⟨Nat.le_of_ble_eq_true rfl, Nat.le_of_ble_eq_true rfl⟩) ⟨cPre.blind, cPre.mk vP0 hKe vD0 hN⟩ rfl rfl hl.1 rfl (lv_room (Nat.le_of_ble_eq_true rfl)) dX2_explains_43 ⟨Nat.zero_le _, Nat.zero_le _⟩) hS hA (fun H locs hkp0 hS => ?_)
                replace hP := hkp0 _ hP
                refine lv_iload_n hx hb dX2_explains_46 rfl (lv_at hl 3 rfl) ?_
                refine lv_icmp_ne (tgt := 54) hx hb dX2_explains_47 (by decide) (fun c_47_16 => ?_) (fun c_47_16 => ?_)
                · refine lv_iconst (v := 0) hx hb dX2_explains_54 (by decide) ?_
                  refine lv_istore (lv' := [(5, .int 0), (0, .ref (h 0)), (1, .int a), (2, .int sme), (3, .int (nI j18)), (4, .int (nI j26))]) hx hb dX2_explains_55 hl (by decide) rfl (fun ls hl => ?_)
                  refine lv_iload hx hb dX2_explains_57 (lv_at hl 0 rfl) ?_
                  refine lv_if_eq (tgt := 80) hx hb dX2_explains_59 (by decide) (fun _ => ?_) (fun hh_18 => absurd (by decide) hh_18)
                  refine lv_iinc (v := nI (j26 + 1)) (lv' := [(4, .int (nI (j26 + 1))), (5, .int 0), (0, .ref (h 0)), (1, .int a), (2, .int sme), (3, .int (nI j18))]) hx hb dX2_explains_80 hl (k := 5) rfl (inc_nI j26) (by decide) rfl (fun ls hl => ?_)
                  refine lv_goto (tgt := 26) hx hb dX2_explains_83 (by decide) ?_
                  exact ih26 (j26 + 1) (by omega) () (itE_succ he26 (by (unfold f_X2_explains_26; (try dsimp only); (try rw [if_pos c_38_13]); (try rw [if_neg c_47_16]); first | done | with_reducible rfl)))   _ _ hP hS _ (lv_sub hl [2, 3, 4, 5, 0] rfl)
                · refine lv_iconst (v := 1) hx hb dX2_explains_50 (by decide) ?_
                  refine lv_goto (tgt := 55) hx hb dX2_explains_51 (by decide) ?_
                  refine lv_istore (lv' := [(5, .int 1), (0, .ref (h 0)), (1, .int a), (2, .int sme), (3, .int (nI j18)), (4, .int (nI j26))]) hx hb dX2_explains_55 hl (by decide) rfl (fun ls hl => ?_)
                  refine lv_iload hx hb dX2_explains_57 (lv_at hl 0 rfl) ?_
                  refine lv_if_eq (tgt := 80) hx hb dX2_explains_59 (by decide) (fun hh_20 => absurd hh_20 (by decide)) (fun _ => ?_)
                  refine lv_aload_n hx hb dX2_explains_62 rfl (lv_at hl 1 rfl) ?_
                  refine lv_iload_n hx hb dX2_explains_63 rfl (lv_at hl 2 rfl) ?_
                  refine lv_aload_n hx hb dX2_explains_64 rfl (lv_at hl 1 rfl) ?_
                  refine va_get (D := D) (ci := 2) (v := .int asd) (C := RX2) (T := TX2) (N := 9) hx hb hts hinX2 hown hK hP 0 rfl rfl 4 (by decide) (hts (.fieldLink RX2 54 "HoldUnless" "assumed" "I") (by decide +kernel)) (fun _ h9 => h9) rfl dX2_explains_65 ?_
                  refine lv_iload hx hb dX2_explains_68 (lv_at hl 5 rfl) ?_
                  refine lv_ior hx hb dX2_explains_70 ?_
                  refine ro_i (D := D) (va_runV (As := [.int a, .int (asd ||| (nI j26))]) (rest := []) ⟨hx, hb, hml, hown, hts⟩ (c_X2_standsWith l D h cA n by_ ln pl tk tp may hd fi un sz2 may2 hd2 fi2 un2 on asd io ia kept tr a (asd ||| (nI j26)) (by first | assumption | omega) ⟨vp_sent c_4_1, vp_or hasd (by omega)⟩ _) (cwV 2 hts gX2_explains_X2_standsWith rfl rfl rfl (by decide +kernel) ⟨Nat.le_of_ble_eq_true rfl, Nat.le_of_ble_eq_true rfl⟩) ⟨cPre.blind, va_recv hK hP (ci := 2) (q0 := 0) rfl rfl, cPre.mk hP hK hD hN⟩ rfl rfl hl.1 rfl (lv_room (Nat.le_of_ble_eq_true rfl)) dX2_explains_71 ⟨Nat.zero_le _, Nat.zero_le _⟩) hS hA (fun H locs hkp0 hS => ?_)
                  replace hP := hkp0 _ hP
                  refine lv_if_eq (tgt := 80) hx hb dX2_explains_74 (by decide) (fun c_74_21 => ?_) (fun c_74_21 => ?_)
                  · refine lv_iinc (v := nI (j26 + 1)) (lv' := [(4, .int (nI (j26 + 1))), (5, .int 1), (0, .ref (h 0)), (1, .int a), (2, .int sme), (3, .int (nI j18))]) hx hb dX2_explains_80 hl (k := 5) rfl (inc_nI j26) (by decide) rfl (fun ls hl => ?_)
                    refine lv_goto (tgt := 26) hx hb dX2_explains_83 (by decide) ?_
                    exact ih26 (j26 + 1) (by omega) () (itE_succ he26 (by (unfold f_X2_explains_26; (try dsimp only); (try rw [if_pos c_38_13]); (try rw [if_pos c_47_16]); (try rw [if_pos c_74_21]); first | done | with_reducible rfl)))   _ _ hP hS _ (lv_sub hl [2, 3, 4, 5, 0] rfl)
                  · refine lv_iload hx hb dX2_explains_77 (lv_at hl 5 rfl) ?_
                    have hs_22 : itE (f_X2_explains_26 n may hd fi un on asd a sme j18) () (j26 + 1) = (.inl (.inl (nI j26))) := itE_succ he26 (by (unfold f_X2_explains_26; (try dsimp only); (try rw [if_pos c_38_13]); (try rw [if_pos c_47_16]); (try rw [if_neg c_74_21]); first | done | with_reducible rfl))
                    have hn_23 := itE_stop hs_22 (sme.toNatClampNeg + 1) (by omega)
                    have hs_24 : itE (f_X2_explains_18 n may hd fi un on asd a sme) () (j18 + 1) = (.inl (nI j26)) := itE_succ he18 (by (unfold f_X2_explains_18; (try dsimp only); (try rw [hn_23]); (try dsimp only [onE]); first | done | with_reducible rfl))
                    have hn_25 := itE_stop hs_24 4 (by omega)
                    exact ro_iret hx hb hr hS hlocks (show s_X2_explains n may hd fi un on asd a sme = nI j26 from by (unfold s_X2_explains; (try dsimp only); (try rw [if_neg c_4_1]); (try rw [if_neg c_11_2]); (try rw [hn_25]); (try dsimp only [onE]); first | done | with_reducible rfl)).symm dX2_explains_79
          exact lp26_8 (sme.toNatClampNeg + 1) 0 (by omega) () (itE_zero _ _)   _ _ hP hS _ (lv_sub hl [1, 2, 3, 4, 0] rfl)
      exact lp18_3 4 0 (by omega) () (itE_zero _ _)   _ _ hP hS _ (lv_sub hl [1, 2, 3, 0] rfl)
    · refine lv_iconst (v := (-1)) hx hb dX2_explains_14 (by decide) ?_
      exact ro_iret hx hb hr hS hlocks (show s_X2_explains n may hd fi un on asd a sme = (-1) from by (unfold s_X2_explains; (try dsimp only); (try rw [if_neg c_4_1]); (try rw [if_pos c_11_2]); first | done | with_reducible rfl)).symm dX2_explains_15

