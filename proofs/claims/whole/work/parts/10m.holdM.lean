def wXR (h : Nat → Nat) (cA : Nat → ClassId) (by_ : Nat → Int32) (ln : Int32) (pl : Int32) (tk : Int32) (tp : Int32) (sz : Int32) (may : Int32) (hd : Nat → Int32) (fi : Nat → Int32) (un : Nat → Int32) (sz2 : Int32) (may2 : Int32) (hd2 : Nat → Int32) (fi2 : Nat → Int32) (un2 : Nat → Int32) (on : Int32) (asd : Int32) (io : Nat → Int32) (ia : Nat → Int32) (kept : Int32) (tr : Int64) (rb : Nat) (rdr : Nat) : va_W := [((h 0), .inr (2, [.ref (h 1), .ref rb, .ref rdr, .int on, .int asd, .ref (h 11), .ref (h 12), .int kept, .long tr])), ((h 1), .inr (1, [.ref (h 2), .int ln, .int pl, .int tk, .int tp])), ((h 2), .inl ((cA 2), 300, .inl by_)), ((h 3), .inr (0, [.int sz, .int may, .ref (h 4), .ref (h 5), .ref (h 6)])), ((h 4), .inl ((cA 4), 10, .inl hd)), ((h 5), .inl ((cA 5), 10, .inl fi)), ((h 6), .inl ((cA 6), 10, .inl un)), ((h 7), .inr (0, [.int sz2, .int may2, .ref (h 8), .ref (h 9), .ref (h 10)])), ((h 8), .inl ((cA 8), 10, .inl hd2)), ((h 9), .inl ((cA 9), 10, .inl fi2)), ((h 10), .inl ((cA 10), 10, .inl un2)), ((h 11), .inl ((cA 11), 2, .inl io)), ((h 12), .inl ((cA 12), 2, .inl ia))]
def tXR (h : Nat → Nat) (cA : Nat → ClassId) : List (ClassId × FieldType) := [((cA 2), .byte), ((cA 4), .int), ((cA 5), .int), ((cA 6), .int), ((cA 8), .int), ((cA 9), .int), ((cA 10), .int), ((cA 11), .int), ((cA 12), .int)]

def s_X2_rules (h : Nat → Nat) (by_ : Nat → Int32) (len : Nat) (hd2 : Nat → Int32) (fi2 : Nat → Int32) (un2 : Nat → Int32) (on : Int32) (asd : Int32) (kept : Int32) : Int32 × Nat × Nat × Nat × Int32 × Int32 × Int32 × Nat × Int32 × (Nat → Int32) × (Nat → Int32) × (Nat → Int32) × Int32 × Int32 × Int32 := (match s_X1_readInto by_ len hd2 fi2 un2 with | (rv_9, plv_1, tkv_2, tpv_3, sz2v_4, may2v_5, hd2v_6, fi2v_7, un2v_8) => (if rv_9 = (-9) then (((-10) - tpv_3), (h 3), (h 7), len, (nI plv_1), tkv_2, tpv_3, sz2v_4, may2v_5, hd2v_6, fi2v_7, un2v_8, on, asd, kept) else (rv_9, (h 7), (h 3), 0, (nI plv_1), tkv_2, tpv_3, sz2v_4, may2v_5, hd2v_6, fi2v_7, un2v_8, ((1 <<< ((nI sz2v_4) &&& 31)) - 1), 0, 0)))
set_option maxHeartbeats 4000000 in
set_option maxRecDepth 100000 in
theorem c_X2_rules (l : Launch) (D : va_G) (h : Nat → Nat) (cA : Nat → ClassId) (len : Nat) (n : Nat) (n2 : Nat) (by_ : Nat → Int32) (pl : Int32) (tk : Int32) (tp : Int32) (may : Int32) (hd : Nat → Int32) (fi : Nat → Int32) (un : Nat → Int32) (may2 : Int32) (hd2 : Nat → Int32) (fi2 : Nat → Int32) (un2 : Nat → Int32) (on : Int32) (asd : Int32) (io : Nat → Int32) (ia : Nat → Int32) (kept : Int32) (tr : Int64) (hlen : len ≤ 300) (sz : Nat) : Met l yX2_rules wsX2_rules ({ frames := 6, cells := 0, slots := 0, locals := 134 }) (va_Pc [.ref (h 0)] (cPre D (tXR h cA) (wXR h cA by_ (nI len) pl tk tp (nI n) may hd fi un (nI n2) may2 hd2 fi2 un2 on asd io ia kept tr (h 3) (h 7)) sz)) (va_Qi (fun (r : Int32) (u : Nat × Nat × Nat × Int32 × Int32 × Int32 × Nat × Int32 × (Nat → Int32) × (Nat → Int32) × (Nat → Int32) × Int32 × Int32 × Int32) => (r, u.1, u.2.1, u.2.2.1, u.2.2.2.1, u.2.2.2.2.1, u.2.2.2.2.2.1, u.2.2.2.2.2.2.1, u.2.2.2.2.2.2.2.1, u.2.2.2.2.2.2.2.2.1, u.2.2.2.2.2.2.2.2.2.1, u.2.2.2.2.2.2.2.2.2.2.1, u.2.2.2.2.2.2.2.2.2.2.2.1, u.2.2.2.2.2.2.2.2.2.2.2.2.1, u.2.2.2.2.2.2.2.2.2.2.2.2.2) = s_X2_rules h by_ len hd2 fi2 un2 on asd kept ∧ (u.2.2.1 ≤ 300) ∧ (u.2.2.2.2.2.2.1 ≤ 10)) (rwB D (fun u : Nat × Nat × Nat × Int32 × Int32 × Int32 × Nat × Int32 × (Nat → Int32) × (Nat → Int32) × (Nat → Int32) × Int32 × Int32 × Int32 => (wXR h cA by_ (nI u.2.2.1) u.2.2.2.1 u.2.2.2.2.1 u.2.2.2.2.2.1 (nI n) may hd fi un (nI u.2.2.2.2.2.2.1) u.2.2.2.2.2.2.2.1 u.2.2.2.2.2.2.2.2.1 u.2.2.2.2.2.2.2.2.2.1 u.2.2.2.2.2.2.2.2.2.2.1 u.2.2.2.2.2.2.2.2.2.2.2.1 u.2.2.2.2.2.2.2.2.2.2.2.2.1 io ia u.2.2.2.2.2.2.2.2.2.2.2.2.2 tr u.1 u.2.1)) (va_A (wXR h cA by_ (nI len) pl tk tp (nI n) may hd fi un (nI n2) may2 hd2 fi2 un2 on asd io ia kept tr (h 3) (h 7)) sz)) (va_A (wXR h cA by_ (nI len) pl tk tp (nI n) may hd fi un (nI n2) may2 hd2 fi2 un2 on asd io ia kept tr (h 3) (h 7)) sz)) 0 0 (va_A (wXR h cA by_ (nI len) pl tk tp (nI n) may hd fi un (nI n2) may2 hd2 fi2 un2 on asd io ia kept tr (h 3) (h 7)) sz) := by
  refine Met.ofW (cc := cX2_rules) (maxL := 3) (ret := (some .int)) (by decide) rfl ?_
  intro p e s m args below meth c s₁ B hml hv
  obtain ⟨rfl, hsz, hP, hK, hD, hN⟩ := hv
  have hx := B.exec
  have hb := B.bytes
  have hr := B.returns
  have hts := atoms_spec (ws := wsX2_rules) B.pre
  have hown : s.vm.findClass RX2 = some m.cls := findClass_of_methodNamed B.named
  have hlocks := B.notSynchronized
  have hinX0 : ∀ w ∈ wsX00, w ∈ wsX2_rules := fun w h => List.mem_cons_of_mem _ (List.mem_append_right _ h)
  have hinX1 : ∀ w ∈ wsX10, w ∈ wsX2_rules := fun w h => List.mem_cons_of_mem _ (List.mem_append_left _ (List.mem_append_right _ h))
  have hinX2 : ∀ w ∈ wsX20, w ∈ wsX2_rules := fun w h => List.mem_cons_of_mem _ (List.mem_append_left _ (List.mem_append_left _ (List.mem_append_right _ h)))
  subst hsz
  replace hD := hD.self (sz := s.heap.size)
  generalize hAe : va_A (wXR h cA by_ (nI len) pl tk tp (nI n) may hd fi un (nI n2) may2 hd2 fi2 un2 on asd io ia kept tr (h 3) (h 7)) s.heap.size = A at hD ⊢
  have hA : ∀ q : Nat, s.heap.size ≤ q → A q := fun q h => by rw [← hAe]; exact Or.inr h
  have hS : va_S A s.heap s.heap [] := va_S.rf
  have hl := lv_entry ([.ref (h 0)]) (n := 3) (Nat.le_of_ble_eq_true rfl)
  rw [lg_entry_eq]
  generalize (lg_sl ([.ref (h 0)]) ++ List.replicate (3 - (lg_sl ([.ref (h 0)])).length) Slot.unset).toArray = ls at hl ⊢
  replace hl : lv_has ls 3 [(0, .ref (h 0))] := hl
  have hKe := hK.sub (tys' := []) [] rfl
  refine lv_aload_n hx hb dX2_rules_0 rfl (lv_at hl 0 rfl) ?_
  refine va_get (D := D) (ci := 2) (v := .ref (h 1)) (C := RX2) (T := TX2) (N := 9) hx hb hts hinX2 hown hK hP 0 rfl rfl 0 (by decide) (hts (.fieldLink RX2 10 "HoldUnless" "text" "LHoldUnless$Text;") (by decide +kernel)) (fun _ h9 => h9) rfl dX2_rules_1 ?_
  refine lv_aload_n hx hb dX2_rules_4 rfl (lv_at hl 0 rfl) ?_
  refine va_get (D := D) (ci := 2) (v := .ref (h 7)) (C := RX2) (T := TX2) (N := 9) hx hb hts hinX2 hown hK hP 0 rfl rfl 2 (by decide) (hts (.fieldLink RX2 23 "HoldUnless" "draft" "LHoldUnless$RuleBook;") (by decide +kernel)) (fun _ h9 => h9) rfl dX2_rules_5 ?_
  have hPc := hP.sub (ws' := (wTB (h 1) (h 2) (cA 2) (h 7) (h 8) (h 9) (h 10) (cA 8) (cA 9) (cA 10) by_ (nI len) pl tk tp (nI n2) may2 hd2 fi2 un2)) [1, 2, 7, 8, 9, 10] rfl
  have hDc := hD.sub (ws' := (wTB (h 1) (h 2) (cA 2) (h 7) (h 8) (h 9) (h 10) (cA 8) (cA 9) (cA 10) by_ (nI len) pl tk tp (nI n2) may2 hd2 fi2 un2)) [1, 2, 7, 8, 9, 10] (by decide) rfl
  have hKc := hK.sub (tys' := (tTB (h 1) (h 2) (cA 2) (h 7) (h 8) (h 9) (h 10) (cA 8) (cA 9) (cA 10))) [0, 4, 5, 6] rfl
  have hFc := va_free (wc := (wTB (h 1) (h 2) (cA 2) (h 7) (h 8) (h 9) (h 10) (cA 8) (cA 9) (cA 10) by_ (nI len) pl tk tp (nI n2) may2 hd2 fi2 un2)) hD hS hA [1, 2, 7, 8, 9, 10] rfl
  refine rw_i (D := D) (wc := (wTB (h 1) (h 2) (cA 2) (h 7) (h 8) (h 9) (h 10) (cA 8) (cA 9) (cA 10) by_ (nI len) pl tk tp (nI n2) may2 hd2 fi2 un2)) (va_runVN (As := [.ref (h 7)]) (rest := []) ⟨hx, hb, hml, hown, hts⟩ (c_X1_readInto l D (h 1) (h 2) (cA 2) (h 7) (h 8) (h 9) (h 10) (cA 8) (cA 9) (cA 10) len n2 by_ pl tk tp may2 hd2 fi2 un2 (by first | assumption | omega) _) ⟨(va_cnB 1 hts gX2_rules_X1_readInto_n41 rfl rfl rfl (hN.nw 3 rfl) (hts (.initialized RX1) (by decide +kernel)) (by decide +kernel) ⟨Nat.le_of_ble_eq_true rfl, Nat.le_of_ble_eq_true rfl⟩), hts (.instanceMethod yX1_readInto) (by decide +kernel), hts (.selects RX1 yX1_readInto yX1_readInto) (by decide +kernel)⟩ ⟨cPre.blind, va_recv hKc hPc (ci := 1) (q0 := 0) rfl rfl, cPre.mk hPc hKc hDc hN⟩ rfl rfl hl.1 rfl (lv_room (Nat.le_of_ble_eq_true rfl)) dX2_rules_8 ⟨Nat.zero_le _, Nat.zero_le _⟩) hS hFc (fun rv_9 u H1 locs hw_10 hP1 hD1 hk1 hS => ?_)
  obtain ⟨plv_1, tkv_2, tpv_3, sz2v_4, may2v_5, hd2v_6, fi2v_7, un2v_8⟩ := u
  try dsimp only at hw_10
  obtain ⟨hw_10, hpx_11, hpx_12⟩ := hw_10
  obtain ⟨hP2, hD2⟩ := va_join (wr := [((h 0), .inr (2, [.ref (h 1), .ref (h 3), .ref (h 7), .int on, .int asd, .ref (h 11), .ref (h 12), .int kept, .long tr])), ((h 3), .inr (0, [.int (nI n), .int may, .ref (h 4), .ref (h 5), .ref (h 6)])), ((h 4), .inl ((cA 4), 10, .inl hd)), ((h 5), .inl ((cA 5), 10, .inl fi)), ((h 6), .inl ((cA 6), 10, .inl un)), ((h 11), .inl ((cA 11), 2, .inl io)), ((h 12), .inl ((cA 12), 2, .inl ia))]) (w1 := (wTB (h 1) (h 2) (cA 2) (h 7) (h 8) (h 9) (h 10) (cA 8) (cA 9) (cA 10) by_ (nI len) (nI plv_1) tkv_2 tpv_3 (nI sz2v_4) may2v_5 hd2v_6 fi2v_7 un2v_8)) hP hD [1, 2, 7, 8, 9, 10] [0, 3, 4, 5, 6, 11, 12] rfl rfl (by decide) (by decide) hk1 hFc hP1 hD1
  have hP := hP2.sub (ws' := (wXR h cA by_ (nI len) (nI plv_1) tkv_2 tpv_3 (nI n) may hd fi un (nI sz2v_4) may2v_5 hd2v_6 fi2v_7 un2v_8 on asd io ia kept tr (h 3) (h 7))) [0, 7, 8, 1, 2, 3, 4, 9, 10, 11, 12, 5, 6] rfl
  have hD := hD2.sub (ws' := (wXR h cA by_ (nI len) (nI plv_1) tkv_2 tpv_3 (nI n) may hd fi un (nI sz2v_4) may2v_5 hd2v_6 fi2v_7 un2v_8 on asd io ia kept tr (h 3) (h 7))) [0, 7, 8, 1, 2, 3, 4, 9, 10, 11, 12, 5, 6] (by decide) rfl
  clear hP1 hD1 hFc hk1
  generalize H1 = H at hP hS ⊢
  refine lv_istore_n (lv' := [(1, .int rv_9), (0, .ref (h 0))]) hx hb dX2_rules_11 rfl hl (by decide) rfl (fun ls hl => ?_)
  refine lv_iload_n hx hb dX2_rules_12 rfl (lv_at hl 0 rfl) ?_
  refine lv_bipush (v := (-9)) hx hb dX2_rules_13 (by decide) ?_
  refine lv_icmp_ne (tgt := 29) hx hb dX2_rules_15 (by decide) (fun c_15_13 => ?_) (fun c_15_13 => ?_)
  · refine lv_aload_n hx hb dX2_rules_29 rfl (lv_at hl 1 rfl) ?_
    refine va_get (D := D) (ci := 2) (v := .ref (h 3)) (C := RX2) (T := TX2) (N := 9) hx hb hts hinX2 hown hK hP 0 rfl rfl 1 (by decide) (hts (.fieldLink RX2 19 "HoldUnless" "book" "LHoldUnless$RuleBook;") (by decide +kernel)) (fun _ h9 => h9) rfl dX2_rules_30 ?_
    refine lv_astore_n (lv' := [(2, .ref (h 3)), (1, .int rv_9), (0, .ref (h 0))]) hx hb dX2_rules_33 rfl hl (by decide) rfl (fun ls hl => ?_)
    refine lv_aload_n hx hb dX2_rules_34 rfl (lv_at hl 2 rfl) ?_
    refine lv_aload_n hx hb dX2_rules_35 rfl (lv_at hl 2 rfl) ?_
    refine va_get (D := D) (ci := 2) (v := .ref (h 7)) (C := RX2) (T := TX2) (N := 9) hx hb hts hinX2 hown hK hP 0 rfl rfl 2 (by decide) (hts (.fieldLink RX2 23 "HoldUnless" "draft" "LHoldUnless$RuleBook;") (by decide +kernel)) (fun _ h9 => h9) rfl dX2_rules_36 ?_
    refine va_put (D := D) (ci := 2) (v := .ref (h 7)) (ty := (.object "HoldUnless$RuleBook")) (C := RX2) (T := TX2) (N := 9) hx hb hts hinX2 tyX2 tyX2_ok nmX2 hown hK hP hD hS 0 rfl rfl 1 (by decide) (hts (.fieldLink RX2 19 "HoldUnless" "book" "LHoldUnless$RuleBook;") (by decide +kernel)) (fun _ h9 => h9) rfl (by decide +kernel) rfl rfl (Nat.le_of_ble_eq_true rfl) dX2_rules_39 (fun H locs hP hD hS => ?_)
    replace hP : va_P D vwCl (wXR h cA by_ (nI len) (nI plv_1) tkv_2 tpv_3 (nI n) may hd fi un (nI sz2v_4) may2v_5 hd2v_6 fi2v_7 un2v_8 on asd io ia kept tr (h 7) (h 7)) H := hP
    replace hD : va_D A (wXR h cA by_ (nI len) (nI plv_1) tkv_2 tpv_3 (nI n) may hd fi un (nI sz2v_4) may2v_5 hd2v_6 fi2v_7 un2v_8 on asd io ia kept tr (h 7) (h 7)) := hD
    refine lv_aload_n hx hb dX2_rules_42 rfl (lv_at hl 2 rfl) ?_
    refine lv_aload_n hx hb dX2_rules_43 rfl (lv_at hl 0 rfl) ?_
    refine va_put (D := D) (ci := 2) (v := .ref (h 3)) (ty := (.object "HoldUnless$RuleBook")) (C := RX2) (T := TX2) (N := 9) hx hb hts hinX2 tyX2 tyX2_ok nmX2 hown hK hP hD hS 0 rfl rfl 2 (by decide) (hts (.fieldLink RX2 23 "HoldUnless" "draft" "LHoldUnless$RuleBook;") (by decide +kernel)) (fun _ h9 => h9) rfl (by decide +kernel) rfl rfl (Nat.le_of_ble_eq_true rfl) dX2_rules_44 (fun H locs hP hD hS => ?_)
    replace hP : va_P D vwCl (wXR h cA by_ (nI len) (nI plv_1) tkv_2 tpv_3 (nI n) may hd fi un (nI sz2v_4) may2v_5 hd2v_6 fi2v_7 un2v_8 on asd io ia kept tr (h 7) (h 3)) H := hP
    replace hD : va_D A (wXR h cA by_ (nI len) (nI plv_1) tkv_2 tpv_3 (nI n) may hd fi un (nI sz2v_4) may2v_5 hd2v_6 fi2v_7 un2v_8 on asd io ia kept tr (h 7) (h 3)) := hD
    refine lv_aload_n hx hb dX2_rules_47 rfl (lv_at hl 2 rfl) ?_
    refine lv_iconst (v := 1) hx hb dX2_rules_48 (by decide) ?_
    refine lv_aload_n hx hb dX2_rules_49 rfl (lv_at hl 2 rfl) ?_
    refine va_get (D := D) (ci := 2) (v := .ref (h 7)) (C := RX2) (T := TX2) (N := 9) hx hb hts hinX2 hown hK hP 0 rfl rfl 1 (by decide) (hts (.fieldLink RX2 19 "HoldUnless" "book" "LHoldUnless$RuleBook;") (by decide +kernel)) (fun _ h9 => h9) rfl dX2_rules_50 ?_
    refine va_getN (D := D) (ci := 0) (v := .int (nI sz2v_4)) (C := RX0) (T := TX0) (N := 5) hx hb hts hinX0 hown hK hP 7 rfl rfl 0 (by decide) (hN.use 18 rfl) (fun _ h9 => h9) rfl dX2_rules_53 ?_
    refine lv_ishl hx hb dX2_rules_56 ?_
    refine lv_iconst (v := 1) hx hb dX2_rules_57 (by decide) ?_
    refine lv_isub hx hb dX2_rules_58 ?_
    refine va_put (D := D) (ci := 2) (v := .int ((1 <<< ((nI sz2v_4) &&& 31)) - 1)) (ty := .int) (C := RX2) (T := TX2) (N := 9) hx hb hts hinX2 tyX2 tyX2_ok nmX2 hown hK hP hD hS 0 rfl rfl 3 (by decide) (hts (.fieldLink RX2 51 "HoldUnless" "on" "I") (by decide +kernel)) (fun _ h9 => h9) rfl (by decide +kernel) rfl rfl (Nat.le_of_ble_eq_true rfl) dX2_rules_59 (fun H locs hP hD hS => ?_)
    replace hP : va_P D vwCl (wXR h cA by_ (nI len) (nI plv_1) tkv_2 tpv_3 (nI n) may hd fi un (nI sz2v_4) may2v_5 hd2v_6 fi2v_7 un2v_8 ((1 <<< ((nI sz2v_4) &&& 31)) - 1) asd io ia kept tr (h 7) (h 3)) H := hP
    replace hD : va_D A (wXR h cA by_ (nI len) (nI plv_1) tkv_2 tpv_3 (nI n) may hd fi un (nI sz2v_4) may2v_5 hd2v_6 fi2v_7 un2v_8 ((1 <<< ((nI sz2v_4) &&& 31)) - 1) asd io ia kept tr (h 7) (h 3)) := hD
    refine lv_aload_n hx hb dX2_rules_62 rfl (lv_at hl 2 rfl) ?_
    refine lv_iconst (v := 0) hx hb dX2_rules_63 (by decide) ?_
    refine va_put (D := D) (ci := 2) (v := .int 0) (ty := .int) (C := RX2) (T := TX2) (N := 9) hx hb hts hinX2 tyX2 tyX2_ok nmX2 hown hK hP hD hS 0 rfl rfl 4 (by decide) (hts (.fieldLink RX2 54 "HoldUnless" "assumed" "I") (by decide +kernel)) (fun _ h9 => h9) rfl (by decide +kernel) rfl rfl (Nat.le_of_ble_eq_true rfl) dX2_rules_64 (fun H locs hP hD hS => ?_)
    replace hP : va_P D vwCl (wXR h cA by_ (nI len) (nI plv_1) tkv_2 tpv_3 (nI n) may hd fi un (nI sz2v_4) may2v_5 hd2v_6 fi2v_7 un2v_8 ((1 <<< ((nI sz2v_4) &&& 31)) - 1) 0 io ia kept tr (h 7) (h 3)) H := hP
    replace hD : va_D A (wXR h cA by_ (nI len) (nI plv_1) tkv_2 tpv_3 (nI n) may hd fi un (nI sz2v_4) may2v_5 hd2v_6 fi2v_7 un2v_8 ((1 <<< ((nI sz2v_4) &&& 31)) - 1) 0 io ia kept tr (h 7) (h 3)) := hD
    refine lv_aload_n hx hb dX2_rules_67 rfl (lv_at hl 2 rfl) ?_
    refine lv_iconst (v := 0) hx hb dX2_rules_68 (by decide) ?_
    refine va_put (D := D) (ci := 2) (v := .int 0) (ty := .int) (C := RX2) (T := TX2) (N := 9) hx hb hts hinX2 tyX2 tyX2_ok nmX2 hown hK hP hD hS 0 rfl rfl 7 (by decide) (hts (.fieldLink RX2 57 "HoldUnless" "imagesKept" "I") (by decide +kernel)) (fun _ h9 => h9) rfl (by decide +kernel) rfl rfl (Nat.le_of_ble_eq_true rfl) dX2_rules_69 (fun H locs hP hD hS => ?_)
    replace hP : va_P D vwCl (wXR h cA by_ (nI len) (nI plv_1) tkv_2 tpv_3 (nI n) may hd fi un (nI sz2v_4) may2v_5 hd2v_6 fi2v_7 un2v_8 ((1 <<< ((nI sz2v_4) &&& 31)) - 1) 0 io ia 0 tr (h 7) (h 3)) H := hP
    replace hD : va_D A (wXR h cA by_ (nI len) (nI plv_1) tkv_2 tpv_3 (nI n) may hd fi un (nI sz2v_4) may2v_5 hd2v_6 fi2v_7 un2v_8 ((1 <<< ((nI sz2v_4) &&& 31)) - 1) 0 io ia 0 tr (h 7) (h 3)) := hD
    refine lv_aload_n hx hb dX2_rules_72 rfl (lv_at hl 2 rfl) ?_
    refine va_get (D := D) (ci := 2) (v := .ref (h 1)) (C := RX2) (T := TX2) (N := 9) hx hb hts hinX2 hown hK hP 0 rfl rfl 0 (by decide) (hts (.fieldLink RX2 10 "HoldUnless" "text" "LHoldUnless$Text;") (by decide +kernel)) (fun _ h9 => h9) rfl dX2_rules_73 ?_
    refine lv_iconst (v := 0) hx hb dX2_rules_76 (by decide) ?_
    refine va_putN (D := D) (ci := 1) (v := .int 0) (ty := .int) (C := RX1) (T := TX1) (N := 5) hx hb hts hinX1 tyX1 tyX1_ok nmX1 hown hK hP hD hS 1 rfl rfl 1 (by decide) (hN.use 16 rfl) (fun _ h9 => h9) rfl (by decide +kernel) rfl rfl (Nat.le_of_ble_eq_true rfl) dX2_rules_77 (fun H locs hP hD hS => ?_)
    replace hP : va_P D vwCl (wXR h cA by_ 0 (nI plv_1) tkv_2 tpv_3 (nI n) may hd fi un (nI sz2v_4) may2v_5 hd2v_6 fi2v_7 un2v_8 ((1 <<< ((nI sz2v_4) &&& 31)) - 1) 0 io ia 0 tr (h 7) (h 3)) H := hP
    replace hD : va_D A (wXR h cA by_ 0 (nI plv_1) tkv_2 tpv_3 (nI n) may hd fi un (nI sz2v_4) may2v_5 hd2v_6 fi2v_7 un2v_8 ((1 <<< ((nI sz2v_4) &&& 31)) - 1) 0 io ia 0 tr (h 7) (h 3)) := hD
    refine lv_iload_n hx hb dX2_rules_80 rfl (lv_at hl 1 rfl) ?_
    exact rw_iret hx hb hr hS hlocks ((h 7), (h 3), 0, (nI plv_1), tkv_2, tpv_3, sz2v_4, may2v_5, hd2v_6, fi2v_7, un2v_8, ((1 <<< ((nI sz2v_4) &&& 31)) - 1), 0, 0) ⟨(show s_X2_rules h by_ len hd2 fi2 un2 on asd kept = (rv_9, (h 7), (h 3), 0, (nI plv_1), tkv_2, tpv_3, sz2v_4, may2v_5, hd2v_6, fi2v_7, un2v_8, ((1 <<< ((nI sz2v_4) &&& 31)) - 1), 0, 0) from by (unfold s_X2_rules; (try dsimp only); (try rw [← hw_10]); (try dsimp only); (try rw [if_neg c_15_13]); first | done | with_reducible rfl)).symm, (by first | assumption | omega | rfl | exact Or.inl rfl | exact Or.inr (by omega) | (dsimp only; omega) | (dsimp only; intro h; omega) | (intro h; rcases h with h | h <;> contradiction)), (by first | assumption | omega | rfl | exact Or.inl rfl | exact Or.inr (by omega) | (dsimp only; omega) | (dsimp only; intro h; omega) | (intro h; rcases h with h | h <;> contradiction))⟩ hP hD dX2_rules_81
  · refine lv_bipush (v := (-10)) hx hb dX2_rules_18 (by decide) ?_
    refine lv_aload_n hx hb dX2_rules_20 rfl (lv_at hl 1 rfl) ?_
    refine va_get (D := D) (ci := 2) (v := .ref (h 1)) (C := RX2) (T := TX2) (N := 9) hx hb hts hinX2 hown hK hP 0 rfl rfl 0 (by decide) (hts (.fieldLink RX2 10 "HoldUnless" "text" "LHoldUnless$Text;") (by decide +kernel)) (fun _ h9 => h9) rfl dX2_rules_21 ?_
    refine va_getN (D := D) (ci := 1) (v := .int tpv_3) (C := RX1) (T := TX1) (N := 5) hx hb hts hinX1 hown hK hP 1 rfl rfl 4 (by decide) (hN.use 17 rfl) (fun _ h9 => h9) rfl dX2_rules_24 ?_
    refine lv_isub hx hb dX2_rules_27 ?_
    exact rw_iret hx hb hr hS hlocks ((h 3), (h 7), len, (nI plv_1), tkv_2, tpv_3, sz2v_4, may2v_5, hd2v_6, fi2v_7, un2v_8, on, asd, kept) ⟨(show s_X2_rules h by_ len hd2 fi2 un2 on asd kept = (((-10) - tpv_3), (h 3), (h 7), len, (nI plv_1), tkv_2, tpv_3, sz2v_4, may2v_5, hd2v_6, fi2v_7, un2v_8, on, asd, kept) from by (unfold s_X2_rules; (try dsimp only); (try rw [← hw_10]); (try dsimp only); (try rw [if_pos c_15_13]); first | done | with_reducible rfl)).symm, (by first | assumption | omega | rfl | exact Or.inl rfl | exact Or.inr (by omega) | (dsimp only; omega) | (dsimp only; intro h; omega) | (intro h; rcases h with h | h <;> contradiction)), (by first | assumption | omega | rfl | exact Or.inl rfl | exact Or.inr (by omega) | (dsimp only; omega) | (dsimp only; intro h; omega) | (intro h; rcases h with h | h <;> contradiction))⟩ hP hD dX2_rules_28

