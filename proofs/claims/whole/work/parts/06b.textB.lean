
def f_X1_readSentences_4 (by_ : Nat → Int32) (len : Nat) (j4 : Nat) (st : Int32 × Nat × Int32 × Int32) : (Int32 × Nat × Int32 × Int32) ⊕ (Int32 × Nat × Int32 × Int32) := match st with | (rdg, q4, tk4, tp4) => (if (s_X2_isSentence tk4) = 0 then (.inl (rdg, q4, tk4, tp4)) else (match s_X1_advance by_ len q4 with | (plv_9, tkv_10, tpv_11) => (.inr ((rdg ||| (1 <<< (tk4 &&& 31))), plv_9, tkv_10, tpv_11))))
def s_X1_readSentences (by_ : Nat → Int32) (len : Nat) (q : Nat) (tk : Int32) (tp : Int32) : Int32 × Nat × Int32 × Int32 := (onE (itE (f_X1_readSentences_4 by_ len) (0, q, tk, tp) 300) (fun st => match st with | (rdg, q4, tk4, tp4) => (rdg, q4, tk4, tp4)))
set_option maxHeartbeats 4000000 in
set_option maxRecDepth 100000 in
theorem c_X1_readSentences (l : Launch) (D : va_G) (t0 : Nat) (t1 : Nat) (ct : ClassId) (len : Nat) (q : Nat) (by_ : Nat → Int32) (tk : Int32) (tp : Int32) (hq : q ≤ len) (hlen : len ≤ 300) (sz : Nat) : Met l yX1_readSentences wsX1_readSentences ({ frames := 3, cells := 0, slots := 0, locals := 63 }) (va_Pc [.ref t0] (cPre D (tT t0 t1 ct) (wT t0 t1 ct by_ (nI len) (nI q) tk tp) sz)) (va_Qi (fun (r : Int32) (u : Nat × Int32 × Int32) => (r, u.1, u.2.1, u.2.2) = s_X1_readSentences by_ len q tk tp ∧ (u.1 ≤ len)) (rwB D (fun u : Nat × Int32 × Int32 => (wT t0 t1 ct by_ (nI len) (nI u.1) u.2.1 u.2.2)) (va_A (wT t0 t1 ct by_ (nI len) (nI q) tk tp) sz)) (va_A (wT t0 t1 ct by_ (nI len) (nI q) tk tp) sz)) 0 0 (va_A (wT t0 t1 ct by_ (nI len) (nI q) tk tp) sz) := by
  refine Met.ofW (cc := cX1_readSentences) (maxL := 3) (ret := (some .int)) (by decide) rfl ?_
  intro p e s m args below meth c s₁ B hml hv
  obtain ⟨rfl, hsz, hP, hK, hD, hN⟩ := hv
  have hx := B.exec
  have hb := B.bytes
  have hr := B.returns
  have hts := atoms_spec (ws := wsX1_readSentences) B.pre
  have hown : s.vm.findClass RX1 = some m.cls := findClass_of_methodNamed B.named
  have hlocks := B.notSynchronized
  have hinX1 : ∀ w ∈ wsX10, w ∈ wsX1_readSentences := fun w h => List.mem_cons_of_mem _ (List.mem_append_right _ h)
  subst hsz
  replace hD := hD.self (sz := s.heap.size)
  generalize hAe : va_A (wT t0 t1 ct by_ (nI len) (nI q) tk tp) s.heap.size = A at hD ⊢
  have hA : ∀ q : Nat, s.heap.size ≤ q → A q := fun q h => by rw [← hAe]; exact Or.inr h
  have hS : va_S A s.heap s.heap [] := va_S.rf
  have hl := lv_entry ([.ref t0]) (n := 3) (Nat.le_of_ble_eq_true rfl)
  rw [lg_entry_eq]
  generalize (lg_sl ([.ref t0]) ++ List.replicate (3 - (lg_sl ([.ref t0])).length) Slot.unset).toArray = ls at hl ⊢
  replace hl : lv_has ls 3 [(0, .ref t0)] := hl
  have hKe := hK.sub (tys' := []) [] rfl
  refine lv_iconst (v := 0) hx hb dX1_readSentences_0 (by decide) ?_
  refine lv_istore_n (lv' := [(1, .int 0), (0, .ref t0)]) hx hb dX1_readSentences_1 rfl hl (by decide) rfl (fun ls hl => ?_)
  refine lv_iconst (v := 0) hx hb dX1_readSentences_2 (by decide) ?_
  refine lv_istore_n (lv' := [(2, .int 0), (1, .int 0), (0, .ref t0)]) hx hb dX1_readSentences_3 rfl hl (by decide) rfl (fun ls hl => ?_)
  have lp4_1 : ∀ (z_1 j4 : Nat), j4 + z_1 = 300 → ∀ (rdg : Int32) (q4 : Nat) (tk4 : Int32) (tp4 : Int32), itE (f_X1_readSentences_4 by_ len) (0, q, tk, tp) j4 = .inr (rdg, q4, tk4, tp4) → (q4 ≤ len) → ∀  (H : Heap) (locs : List Loc), va_P D vwCl (wT t0 t1 ct by_ (nI len) (nI q4) tk4 tp4) H → va_D A (wT t0 t1 ct by_ (nI len) (nI q4) tk4 tp4) → va_S A s.heap H locs → ∀ ls : Array Slot, lv_has ls 3 [(0, .ref t0), (1, .int rdg), (2, .int (nI j4))] → W p l e (headSpec wsX1_readSentences ({ frames := 3, cells := 0, slots := 0, locals := 63 })).room s m ([.ref t0] : List Value).toArray below meth c H locs 0 0 (MQ below (va_Qi (fun (r : Int32) (u : Nat × Int32 × Int32) => (r, u.1, u.2.1, u.2.2) = s_X1_readSentences by_ len q tk tp ∧ (u.1 ≤ len)) (rwB D (fun u : Nat × Int32 × Int32 => (wT t0 t1 ct by_ (nI len) (nI u.1) u.2.1 u.2.2)) A) A) ([.ref t0] : List Value).toArray s 0 0 A) (F0 m 4 ls []) := by
    intro z_1
    induction z_1 with
    | zero =>
      intro j4 hj4 rdg q4 tk4 tp4 he4 hq4  H locs hP hD hS ls hl
      obtain rfl : 300 = j4 := by omega
      refine lv_iload_n hx hb dX1_readSentences_4 rfl (lv_at hl 2 rfl) ?_
      refine lv_sipush (v := 300) hx hb dX1_readSentences_5 (by decide) ?_
      refine lv_icmp_ge (tgt := 40) hx hb dX1_readSentences_8 (by decide) (fun _ => ?_) (fun hh_3 => absurd (nI_le (a := 300) (b := 300) (by omega) (by omega)) hh_3)
      refine lv_iload_n hx hb dX1_readSentences_40 rfl (lv_at hl 1 rfl) ?_
      exact rw_iret hx hb hr hS hlocks (q4, tk4, tp4) ⟨(show s_X1_readSentences by_ len q tk tp = (rdg, q4, tk4, tp4) from by (unfold s_X1_readSentences; (try dsimp only); (try rw [he4]); (try dsimp only [onE]); first | done | rfl)).symm, (by first | assumption | omega | rfl | exact Or.inl rfl | exact Or.inr (by omega) | (dsimp only; omega) | (dsimp only; intro h; omega) | (intro h; rcases h with h | h <;> contradiction))⟩ hP hD dX1_readSentences_41
    | succ z_1 ih4 =>
      intro j4 hj4 rdg q4 tk4 tp4 he4 hq4  H locs hP hD hS ls hl
      refine lv_iload_n hx hb dX1_readSentences_4 rfl (lv_at hl 2 rfl) ?_
      refine lv_sipush (v := 300) hx hb dX1_readSentences_5 (by decide) ?_
      refine lv_icmp_ge (tgt := 40) hx hb dX1_readSentences_8 (by decide) (fun hh_5 => absurd hh_5 (nI_ge (a := j4) (b := 300) (by omega) (by omega))) (fun _ => ?_)
      refine lv_aload_n hx hb dX1_readSentences_11 rfl (lv_at hl 0 rfl) ?_
      refine va_get (D := D) (ci := 1) (v := .int tk4) (C := RX1) (T := TX1) (N := 5) hx hb hts hinX1 hown hK hP 0 rfl rfl 3 (by decide) (hts (.fieldLink RX1 30 "HoldUnless$Text" "token" "I") (by decide +kernel)) (fun _ h9 => h9) rfl dX1_readSentences_12 ?_
      refine ro_i (D := D) (va_runSN (As := [.int tk4]) (rest := []) ⟨hx, hb, hml, hown, hts⟩ (c_X2_isSentence l D tk4  _) ⟨(va_cnB 1 hts gX1_readSentences_X2_isSentence_n47 rfl rfl rfl (hN.nw 5 rfl) (hts (.initialized RX2) (by decide +kernel)) (by decide +kernel) ⟨Nat.le_of_ble_eq_true rfl, Nat.le_of_ble_eq_true rfl⟩), hts (.static yX2_isSentence) (by decide +kernel), trivial⟩ ⟨cPre.blind, cPre.mk vP0 hKe vD0 hN⟩ rfl rfl hl.1 rfl (lv_room (Nat.le_of_ble_eq_true rfl)) dX1_readSentences_15 ⟨Nat.zero_le _, Nat.zero_le _⟩) hS hA (fun H locs hkp0 hS => ?_)
      replace hP := hkp0 _ hP
      refine lv_if_eq (tgt := 40) hx hb dX1_readSentences_18 (by decide) (fun c_18_6 => ?_) (fun c_18_6 => ?_)
      · refine lv_iload_n hx hb dX1_readSentences_40 rfl (lv_at hl 1 rfl) ?_
        have hs_7 : itE (f_X1_readSentences_4 by_ len) (0, q, tk, tp) (j4 + 1) = (.inl (rdg, q4, tk4, tp4)) := itE_succ he4 (by (unfold f_X1_readSentences_4; (try dsimp only); (try rw [if_pos c_18_6]); first | done | rfl))
        have hn_8 := itE_stop hs_7 300 (by omega)
        exact rw_iret hx hb hr hS hlocks (q4, tk4, tp4) ⟨(show s_X1_readSentences by_ len q tk tp = (rdg, q4, tk4, tp4) from by (unfold s_X1_readSentences; (try dsimp only); (try rw [hn_8]); (try dsimp only [onE]); first | done | rfl)).symm, (by first | assumption | omega | rfl | exact Or.inl rfl | exact Or.inr (by omega) | (dsimp only; omega) | (dsimp only; intro h; omega) | (intro h; rcases h with h | h <;> contradiction))⟩ hP hD dX1_readSentences_41
      · refine lv_iload_n hx hb dX1_readSentences_21 rfl (lv_at hl 1 rfl) ?_
        refine lv_iconst (v := 1) hx hb dX1_readSentences_22 (by decide) ?_
        refine lv_aload_n hx hb dX1_readSentences_23 rfl (lv_at hl 0 rfl) ?_
        refine va_get (D := D) (ci := 1) (v := .int tk4) (C := RX1) (T := TX1) (N := 5) hx hb hts hinX1 hown hK hP 0 rfl rfl 3 (by decide) (hts (.fieldLink RX1 30 "HoldUnless$Text" "token" "I") (by decide +kernel)) (fun _ h9 => h9) rfl dX1_readSentences_24 ?_
        refine lv_ishl hx hb dX1_readSentences_27 ?_
        refine lv_ior hx hb dX1_readSentences_28 ?_
        refine lv_istore_n (lv' := [(1, .int (rdg ||| (1 <<< (tk4 &&& 31)))), (0, .ref t0), (2, .int (nI j4))]) hx hb dX1_readSentences_29 rfl hl (by decide) rfl (fun ls hl => ?_)
        refine lv_aload_n hx hb dX1_readSentences_30 rfl (lv_at hl 1 rfl) ?_
        have hFc := va_free (wc := (wT t0 t1 ct by_ (nI len) (nI q4) tk4 tp4)) hD hS hA [0, 1] rfl
        refine rw_v (D := D) (wc := (wT t0 t1 ct by_ (nI len) (nI q4) tk4 tp4)) (va_runV (As := []) (rest := []) ⟨hx, hb, hml, hown, hts⟩ (c_X1_advance l D t0 t1 ct len q4 by_ tk4 tp4 (by first | assumption | omega) (by first | assumption | omega) _) (cwV 0 hts gX1_readSentences_X1_advance rfl rfl rfl (by decide +kernel) ⟨Nat.le_of_ble_eq_true rfl, Nat.le_of_ble_eq_true rfl⟩) ⟨cPre.blind, va_recv hK hP (ci := 1) (q0 := 0) rfl rfl, cPre.mk hP hK hD hN⟩ rfl rfl hl.1 rfl (lv_room (Nat.le_of_ble_eq_true rfl)) dX1_readSentences_31 ⟨Nat.zero_le _, Nat.zero_le _⟩) hS hFc (fun u H1 locs hw_13 hP1 hD1 hk1 hS => ?_)
        obtain ⟨plv_9, tkv_10, tpv_11⟩ := u
        try dsimp only at hw_13
        obtain ⟨hw_13, hpx_14⟩ := hw_13
        have hP : va_P D vwCl (wT t0 t1 ct by_ (nI len) (nI plv_9) tkv_10 tpv_11) H1 := hP1
        have hD : va_D A (wT t0 t1 ct by_ (nI len) (nI plv_9) tkv_10 tpv_11) := hD1.weaken (fun k q hk h => hFc _ h)
        clear hP1 hD1 hFc hk1
        generalize H1 = H at hP hS ⊢
        refine lv_iinc (v := nI (j4 + 1)) (lv' := [(2, .int (nI (j4 + 1))), (1, .int (rdg ||| (1 <<< (tk4 &&& 31)))), (0, .ref t0)]) hx hb dX1_readSentences_34 hl (k := 2) rfl (inc_nI j4) (by decide) rfl (fun ls hl => ?_)
        refine lv_goto (tgt := 4) hx hb dX1_readSentences_37 (by decide) ?_
        exact ih4 (j4 + 1) (by omega) (rdg ||| (1 <<< (tk4 &&& 31))) plv_9 tkv_10 tpv_11 (itE_succ he4 (by (unfold f_X1_readSentences_4; (try dsimp only); (try rw [if_neg c_18_6]); (try rw [← hw_13]); (try dsimp only); first | done | rfl))) (by first | assumption | omega)  _ _ hP hD hS _ (lv_sub hl [2, 1, 0] rfl)
  exact lp4_1 300 0 (by omega) 0 q tk tp (itE_zero _ _) hq  _ _ hP hD hS _ (lv_sub hl [2, 1, 0] rfl)

def s_X1_readMay (by_ : Nat → Int32) (len : Nat) (q : Nat) (may : Int32) : Int32 × Nat × Int32 × Int32 × Int32 := (match s_X1_advance by_ len q with | (plv_1, tkv_2, tpv_3) => (match s_X1_readSentences by_ len plv_1 tkv_2 tpv_3 with | (rv_10, plv_7, tkv_8, tpv_9) => (if rv_10 = 0 then (0, plv_7, tkv_8, tpv_9, may) else (if tkv_8 = 12 then (match s_X1_advance by_ len plv_7 with | (plv_15, tkv_16, tpv_17) => (1, plv_15, tkv_16, tpv_17, (may ||| rv_10))) else (0, plv_7, tkv_8, tpv_9, may)))))
set_option maxHeartbeats 4000000 in
set_option maxRecDepth 100000 in
theorem c_X1_readMay (l : Launch) (D : va_G) (t0 : Nat) (t1 : Nat) (ct : ClassId) (a0 : Nat) (a1 : Nat) (a2 : Nat) (a3 : Nat) (b1 : ClassId) (b2 : ClassId) (b3 : ClassId) (len : Nat) (q : Nat) (n : Nat) (by_ : Nat → Int32) (tk : Int32) (tp : Int32) (may : Int32) (hd : Nat → Int32) (fi : Nat → Int32) (un : Nat → Int32) (hq : q ≤ len) (hlen : len ≤ 300) (hn : n ≤ 10) (sz : Nat) : Met l yX1_readMay wsX1_readMay ({ frames := 4, cells := 0, slots := 0, locals := 85 }) (va_Pc [.ref t0, .ref a0] (cPre D (tTB t0 t1 ct a0 a1 a2 a3 b1 b2 b3) (wTB t0 t1 ct a0 a1 a2 a3 b1 b2 b3 by_ (nI len) (nI q) tk tp (nI n) may hd fi un) sz)) (va_Qi (fun (r : Int32) (u : Nat × Int32 × Int32 × Int32) => (r, u.1, u.2.1, u.2.2.1, u.2.2.2) = s_X1_readMay by_ len q may ∧ (u.1 ≤ len)) (rwB D (fun u : Nat × Int32 × Int32 × Int32 => (wTB t0 t1 ct a0 a1 a2 a3 b1 b2 b3 by_ (nI len) (nI u.1) u.2.1 u.2.2.1 (nI n) u.2.2.2 hd fi un)) (va_A (wTB t0 t1 ct a0 a1 a2 a3 b1 b2 b3 by_ (nI len) (nI q) tk tp (nI n) may hd fi un) sz)) (va_A (wTB t0 t1 ct a0 a1 a2 a3 b1 b2 b3 by_ (nI len) (nI q) tk tp (nI n) may hd fi un) sz)) 0 0 (va_A (wTB t0 t1 ct a0 a1 a2 a3 b1 b2 b3 by_ (nI len) (nI q) tk tp (nI n) may hd fi un) sz) := by
  refine Met.ofW (cc := cX1_readMay) (maxL := 3) (ret := (some .boolean)) (by decide) rfl ?_
  intro p e s m args below meth c s₁ B hml hv
  obtain ⟨rfl, hsz, hP, hK, hD, hN⟩ := hv
  have hx := B.exec
  have hb := B.bytes
  have hr := B.returns
  have hts := atoms_spec (ws := wsX1_readMay) B.pre
  have hown : s.vm.findClass RX1 = some m.cls := findClass_of_methodNamed B.named
  have hlocks := B.notSynchronized
  have hinX0 : ∀ w ∈ wsX00, w ∈ wsX1_readMay := fun w h => List.mem_cons_of_mem _ (List.mem_append_right _ h)
  have hinX1 : ∀ w ∈ wsX10, w ∈ wsX1_readMay := fun w h => List.mem_cons_of_mem _ (List.mem_append_left _ (List.mem_append_right _ h))
  subst hsz
  replace hD := hD.self (sz := s.heap.size)
  generalize hAe : va_A (wTB t0 t1 ct a0 a1 a2 a3 b1 b2 b3 by_ (nI len) (nI q) tk tp (nI n) may hd fi un) s.heap.size = A at hD ⊢
  have hA : ∀ q : Nat, s.heap.size ≤ q → A q := fun q h => by rw [← hAe]; exact Or.inr h
  have hS : va_S A s.heap s.heap [] := va_S.rf
  have hl := lv_entry ([.ref t0, .ref a0]) (n := 3) (Nat.le_of_ble_eq_true rfl)
  rw [lg_entry_eq]
  generalize (lg_sl ([.ref t0, .ref a0]) ++ List.replicate (3 - (lg_sl ([.ref t0, .ref a0])).length) Slot.unset).toArray = ls at hl ⊢
  replace hl : lv_has ls 3 [(0, .ref t0), (1, .ref a0)] := hl
  have hKe := hK.sub (tys' := []) [] rfl
  refine lv_aload_n hx hb dX1_readMay_0 rfl (lv_at hl 0 rfl) ?_
  have hPc := hP.sub (ws' := (wT t0 t1 ct by_ (nI len) (nI q) tk tp)) [0, 1] rfl
  have hDc := hD.sub (ws' := (wT t0 t1 ct by_ (nI len) (nI q) tk tp)) [0, 1] (by decide) rfl
  have hKc := hK.sub (tys' := (tT t0 t1 ct)) [0] rfl
  have hFc := va_free (wc := (wT t0 t1 ct by_ (nI len) (nI q) tk tp)) hD hS hA [0, 1] rfl
  refine rw_v (D := D) (wc := (wT t0 t1 ct by_ (nI len) (nI q) tk tp)) (va_runV (As := []) (rest := []) ⟨hx, hb, hml, hown, hts⟩ (c_X1_advance l D t0 t1 ct len q by_ tk tp (by first | assumption | omega) (by first | assumption | omega) _) (cwV 0 hts gX1_readMay_X1_advance rfl rfl rfl (by decide +kernel) ⟨Nat.le_of_ble_eq_true rfl, Nat.le_of_ble_eq_true rfl⟩) ⟨cPre.blind, va_recv hKc hPc (ci := 1) (q0 := 0) rfl rfl, cPre.mk hPc hKc hDc hN⟩ rfl rfl hl.1 rfl (lv_room (Nat.le_of_ble_eq_true rfl)) dX1_readMay_1 ⟨Nat.zero_le _, Nat.zero_le _⟩) hS hFc (fun u H1 locs hw_5 hP1 hD1 hk1 hS => ?_)
  obtain ⟨plv_1, tkv_2, tpv_3⟩ := u
  try dsimp only at hw_5
  obtain ⟨hw_5, hpx_6⟩ := hw_5
  obtain ⟨hP2, hD2⟩ := va_join (wr := [(a0, .inr (0, [.int (nI n), .int may, .ref a1, .ref a2, .ref a3])), (a1, .inl (b1, 10, .inl hd)), (a2, .inl (b2, 10, .inl fi)), (a3, .inl (b3, 10, .inl un))]) (w1 := (wT t0 t1 ct by_ (nI len) (nI plv_1) tkv_2 tpv_3)) hP hD [0, 1] [2, 3, 4, 5] rfl rfl (by decide) (by decide) hk1 hFc hP1 hD1
  have hP := hP2.sub (ws' := (wTB t0 t1 ct a0 a1 a2 a3 b1 b2 b3 by_ (nI len) (nI plv_1) tkv_2 tpv_3 (nI n) may hd fi un)) [4, 5, 0, 1, 2, 3] rfl
  have hD := hD2.sub (ws' := (wTB t0 t1 ct a0 a1 a2 a3 b1 b2 b3 by_ (nI len) (nI plv_1) tkv_2 tpv_3 (nI n) may hd fi un)) [4, 5, 0, 1, 2, 3] (by decide) rfl
  clear hP1 hD1 hFc hk1
  generalize H1 = H at hP hS ⊢
  refine lv_aload_n hx hb dX1_readMay_4 rfl (lv_at hl 0 rfl) ?_
  have hPc := hP.sub (ws' := (wT t0 t1 ct by_ (nI len) (nI plv_1) tkv_2 tpv_3)) [0, 1] rfl
  have hDc := hD.sub (ws' := (wT t0 t1 ct by_ (nI len) (nI plv_1) tkv_2 tpv_3)) [0, 1] (by decide) rfl
  have hKc := hK.sub (tys' := (tT t0 t1 ct)) [0] rfl
  have hFc := va_free (wc := (wT t0 t1 ct by_ (nI len) (nI plv_1) tkv_2 tpv_3)) hD hS hA [0, 1] rfl
  refine rw_i (D := D) (wc := (wT t0 t1 ct by_ (nI len) (nI plv_1) tkv_2 tpv_3)) (va_runV (As := []) (rest := []) ⟨hx, hb, hml, hown, hts⟩ (c_X1_readSentences l D t0 t1 ct len plv_1 by_ tkv_2 tpv_3 (by first | assumption | omega) (by first | assumption | omega) _) (cwV 0 hts gX1_readMay_X1_readSentences rfl rfl rfl (by decide +kernel) ⟨Nat.le_of_ble_eq_true rfl, Nat.le_of_ble_eq_true rfl⟩) ⟨cPre.blind, va_recv hKc hPc (ci := 1) (q0 := 0) rfl rfl, cPre.mk hPc hKc hDc hN⟩ rfl rfl hl.1 rfl (lv_room (Nat.le_of_ble_eq_true rfl)) dX1_readMay_5 ⟨Nat.zero_le _, Nat.zero_le _⟩) hS hFc (fun rv_10 u H1 locs hw_11 hP1 hD1 hk1 hS => ?_)
  obtain ⟨plv_7, tkv_8, tpv_9⟩ := u
  try dsimp only at hw_11
  obtain ⟨hw_11, hpx_12⟩ := hw_11
  obtain ⟨hP2, hD2⟩ := va_join (wr := [(a0, .inr (0, [.int (nI n), .int may, .ref a1, .ref a2, .ref a3])), (a1, .inl (b1, 10, .inl hd)), (a2, .inl (b2, 10, .inl fi)), (a3, .inl (b3, 10, .inl un))]) (w1 := (wT t0 t1 ct by_ (nI len) (nI plv_7) tkv_8 tpv_9)) hP hD [0, 1] [2, 3, 4, 5] rfl rfl (by decide) (by decide) hk1 hFc hP1 hD1
  have hP := hP2.sub (ws' := (wTB t0 t1 ct a0 a1 a2 a3 b1 b2 b3 by_ (nI len) (nI plv_7) tkv_8 tpv_9 (nI n) may hd fi un)) [4, 5, 0, 1, 2, 3] rfl
  have hD := hD2.sub (ws' := (wTB t0 t1 ct a0 a1 a2 a3 b1 b2 b3 by_ (nI len) (nI plv_7) tkv_8 tpv_9 (nI n) may hd fi un)) [4, 5, 0, 1, 2, 3] (by decide) rfl
  clear hP1 hD1 hFc hk1
  generalize H1 = H at hP hS ⊢
  refine lv_istore_n (lv' := [(2, .int rv_10), (0, .ref t0), (1, .ref a0)]) hx hb dX1_readMay_8 rfl hl (by decide) rfl (fun ls hl => ?_)
  refine lv_iload_n hx hb dX1_readMay_9 rfl (lv_at hl 0 rfl) ?_
  refine lv_if_eq (tgt := 22) hx hb dX1_readMay_10 (by decide) (fun c_10_13 => ?_) (fun c_10_13 => ?_)
  · refine lv_iconst (v := 0) hx hb dX1_readMay_22 (by decide) ?_
    exact rw_zret hx hb hr hS hlocks (plv_7, tkv_8, tpv_9, may) ⟨(show s_X1_readMay by_ len q may = (0, plv_7, tkv_8, tpv_9, may) from by (unfold s_X1_readMay; (try dsimp only); (try rw [← hw_5]); (try dsimp only); (try rw [← hw_11]); (try dsimp only); (try rw [if_pos c_10_13]); first | done | rfl)).symm, (by first | assumption | omega | rfl | exact Or.inl rfl | exact Or.inr (by omega) | (dsimp only; omega) | (dsimp only; intro h; omega) | (intro h; rcases h with h | h <;> contradiction))⟩ hP hD (by decide +kernel) dX1_readMay_23
  · refine lv_aload_n hx hb dX1_readMay_13 rfl (lv_at hl 1 rfl) ?_
    refine va_get (D := D) (ci := 1) (v := .int tkv_8) (C := RX1) (T := TX1) (N := 5) hx hb hts hinX1 hown hK hP 0 rfl rfl 3 (by decide) (hts (.fieldLink RX1 30 "HoldUnless$Text" "token" "I") (by decide +kernel)) (fun _ h9 => h9) rfl dX1_readMay_14 ?_
    refine lv_bipush (v := 12) hx hb dX1_readMay_17 (by decide) ?_
    refine lv_icmp_eq (tgt := 24) hx hb dX1_readMay_19 (by decide) (fun c_19_14 => ?_) (fun c_19_14 => ?_)
    · refine lv_aload_n hx hb dX1_readMay_24 rfl (lv_at hl 2 rfl) ?_
      refine lv_dup hx hb dX1_readMay_25 rfl ?_
      refine va_getN (D := D) (ci := 0) (v := .int may) (C := RX0) (T := TX0) (N := 5) hx hb hts hinX0 hown hK hP 2 rfl rfl 1 (by decide) (hN.use 19 rfl) (fun _ h9 => h9) rfl dX1_readMay_26 ?_
      refine lv_iload_n hx hb dX1_readMay_29 rfl (lv_at hl 0 rfl) ?_
      refine lv_ior hx hb dX1_readMay_30 ?_
      refine va_putN (D := D) (ci := 0) (v := .int (may ||| rv_10)) (ty := .int) (C := RX0) (T := TX0) (N := 5) hx hb hts hinX0 tyX0 tyX0_ok nmX0 hown hK hP hD hS 2 rfl rfl 1 (by decide) (hN.use 19 rfl) (fun _ h9 => h9) rfl (by decide +kernel) rfl rfl (Nat.le_of_ble_eq_true rfl) dX1_readMay_31 (fun H locs hP hD hS => ?_)
      replace hP : va_P D vwCl (wTB t0 t1 ct a0 a1 a2 a3 b1 b2 b3 by_ (nI len) (nI plv_7) tkv_8 tpv_9 (nI n) (may ||| rv_10) hd fi un) H := hP
      replace hD : va_D A (wTB t0 t1 ct a0 a1 a2 a3 b1 b2 b3 by_ (nI len) (nI plv_7) tkv_8 tpv_9 (nI n) (may ||| rv_10) hd fi un) := hD
      refine lv_aload_n hx hb dX1_readMay_34 rfl (lv_at hl 1 rfl) ?_
      have hPc := hP.sub (ws' := (wT t0 t1 ct by_ (nI len) (nI plv_7) tkv_8 tpv_9)) [0, 1] rfl
      have hDc := hD.sub (ws' := (wT t0 t1 ct by_ (nI len) (nI plv_7) tkv_8 tpv_9)) [0, 1] (by decide) rfl
      have hKc := hK.sub (tys' := (tT t0 t1 ct)) [0] rfl
      have hFc := va_free (wc := (wT t0 t1 ct by_ (nI len) (nI plv_7) tkv_8 tpv_9)) hD hS hA [0, 1] rfl
      refine rw_v (D := D) (wc := (wT t0 t1 ct by_ (nI len) (nI plv_7) tkv_8 tpv_9)) (va_runV (As := []) (rest := []) ⟨hx, hb, hml, hown, hts⟩ (c_X1_advance l D t0 t1 ct len plv_7 by_ tkv_8 tpv_9 (by first | assumption | omega) (by first | assumption | omega) _) (cwV 0 hts gX1_readMay_X1_advance rfl rfl rfl (by decide +kernel) ⟨Nat.le_of_ble_eq_true rfl, Nat.le_of_ble_eq_true rfl⟩) ⟨cPre.blind, va_recv hKc hPc (ci := 1) (q0 := 0) rfl rfl, cPre.mk hPc hKc hDc hN⟩ rfl rfl hl.1 rfl (lv_room (Nat.le_of_ble_eq_true rfl)) dX1_readMay_35 ⟨Nat.zero_le _, Nat.zero_le _⟩) hS hFc (fun u H1 locs hw_19 hP1 hD1 hk1 hS => ?_)
      obtain ⟨plv_15, tkv_16, tpv_17⟩ := u
      try dsimp only at hw_19
      obtain ⟨hw_19, hpx_20⟩ := hw_19
      obtain ⟨hP2, hD2⟩ := va_join (wr := [(a0, .inr (0, [.int (nI n), .int (may ||| rv_10), .ref a1, .ref a2, .ref a3])), (a1, .inl (b1, 10, .inl hd)), (a2, .inl (b2, 10, .inl fi)), (a3, .inl (b3, 10, .inl un))]) (w1 := (wT t0 t1 ct by_ (nI len) (nI plv_15) tkv_16 tpv_17)) hP hD [0, 1] [2, 3, 4, 5] rfl rfl (by decide) (by decide) hk1 hFc hP1 hD1
      have hP := hP2.sub (ws' := (wTB t0 t1 ct a0 a1 a2 a3 b1 b2 b3 by_ (nI len) (nI plv_15) tkv_16 tpv_17 (nI n) (may ||| rv_10) hd fi un)) [4, 5, 0, 1, 2, 3] rfl
      have hD := hD2.sub (ws' := (wTB t0 t1 ct a0 a1 a2 a3 b1 b2 b3 by_ (nI len) (nI plv_15) tkv_16 tpv_17 (nI n) (may ||| rv_10) hd fi un)) [4, 5, 0, 1, 2, 3] (by decide) rfl
      clear hP1 hD1 hFc hk1
      generalize H1 = H at hP hS ⊢
      refine lv_iconst (v := 1) hx hb dX1_readMay_38 (by decide) ?_
      exact rw_zret hx hb hr hS hlocks (plv_15, tkv_16, tpv_17, (may ||| rv_10)) ⟨(show s_X1_readMay by_ len q may = (1, plv_15, tkv_16, tpv_17, (may ||| rv_10)) from by (unfold s_X1_readMay; (try dsimp only); (try rw [← hw_5]); (try dsimp only); (try rw [← hw_11]); (try dsimp only); (try rw [if_neg c_10_13]); (try rw [if_pos c_19_14]); (try rw [← hw_19]); (try dsimp only); first | done | rfl)).symm, (by first | assumption | omega | rfl | exact Or.inl rfl | exact Or.inr (by omega) | (dsimp only; omega) | (dsimp only; intro h; omega) | (intro h; rcases h with h | h <;> contradiction))⟩ hP hD (by decide +kernel) dX1_readMay_39
    · refine lv_iconst (v := 0) hx hb dX1_readMay_22 (by decide) ?_
      exact rw_zret hx hb hr hS hlocks (plv_7, tkv_8, tpv_9, may) ⟨(show s_X1_readMay by_ len q may = (0, plv_7, tkv_8, tpv_9, may) from by (unfold s_X1_readMay; (try dsimp only); (try rw [← hw_5]); (try dsimp only); (try rw [← hw_11]); (try dsimp only); (try rw [if_neg c_10_13]); (try rw [if_neg c_19_14]); first | done | rfl)).symm, (by first | assumption | omega | rfl | exact Or.inl rfl | exact Or.inr (by omega) | (dsimp only; omega) | (dsimp only; intro h; omega) | (intro h; rcases h with h | h <;> contradiction))⟩ hP hD (by decide +kernel) dX1_readMay_23

def j_X1_readRule_119 (by_ : Nat → Int32) (len : Nat) (n : Nat) (hd : Nat → Int32) (fi : Nat → Int32) (un : Nat → Int32) (nh : Int32) (ni : Int32) (nu : Int32) (q1 : Nat) (tk1 : Int32) (tp1 : Int32) : Int32 × Nat × Int32 × Int32 × Nat × (Nat → Int32) × (Nat → Int32) × (Nat → Int32) := (if nh = 8 then (if ni = 0 then (if nu = 0 then (0, q1, tk1, tp1, n, hd, fi, un) else (if tk1 = 12 then (match s_X0_add n hd fi un nh ni nu with | (szv_39, hdv_40, fiv_41, unv_42) => (match s_X1_advance by_ len q1 with | (plv_46, tkv_47, tpv_48) => (1, plv_46, tkv_47, tpv_48, szv_39, hdv_40, fiv_41, unv_42))) else (0, q1, tk1, tp1, n, hd, fi, un))) else (if tk1 = 12 then (match s_X0_add n hd fi un nh ni nu with | (szv_22, hdv_23, fiv_24, unv_25) => (match s_X1_advance by_ len q1 with | (plv_29, tkv_30, tpv_31) => (1, plv_29, tkv_30, tpv_31, szv_22, hdv_23, fiv_24, unv_25))) else (0, q1, tk1, tp1, n, hd, fi, un))) else (if tk1 = 12 then (match s_X0_add n hd fi un nh ni nu with | (szv_5, hdv_6, fiv_7, unv_8) => (match s_X1_advance by_ len q1 with | (plv_12, tkv_13, tpv_14) => (1, plv_12, tkv_13, tpv_14, szv_5, hdv_6, fiv_7, unv_8))) else (0, q1, tk1, tp1, n, hd, fi, un)))
def j_X1_readRule_93 (by_ : Nat → Int32) (len : Nat) (n : Nat) (hd : Nat → Int32) (fi : Nat → Int32) (un : Nat → Int32) (nh : Int32) (ni : Int32) (nu : Int32) (q1 : Nat) (tk1 : Int32) (tp1 : Int32) : Int32 × Nat × Int32 × Int32 × Nat × (Nat → Int32) × (Nat → Int32) × (Nat → Int32) := (if tk1 = 9 then (match s_X1_advance by_ len q1 with | (plv_55, tkv_56, tpv_57) => (match s_X1_readSentences by_ len plv_55 tkv_56 tpv_57 with | (rv_64, plv_61, tkv_62, tpv_63) => (if rv_64 = 0 then (0, plv_61, tkv_62, tpv_63, n, hd, fi, un) else j_X1_readRule_119 by_ len n hd fi un nh ni rv_64 plv_61 tkv_62 tpv_63))) else j_X1_readRule_119 by_ len n hd fi un nh ni nu q1 tk1 tp1)
def j_X1_readRule_57 (by_ : Nat → Int32) (len : Nat) (q : Nat) (n : Nat) (hd : Nat → Int32) (fi : Nat → Int32) (un : Nat → Int32) (nh : Int32) : Int32 × Nat × Int32 × Int32 × Nat × (Nat → Int32) × (Nat → Int32) × (Nat → Int32) := (match s_X1_advance by_ len q with | (plv_68, tkv_69, tpv_70) => (if tkv_69 = 8 then (match s_X1_advance by_ len plv_68 with | (plv_75, tkv_76, tpv_77) => (match s_X1_readSentences by_ len plv_75 tkv_76 tpv_77 with | (rv_84, plv_81, tkv_82, tpv_83) => (if rv_84 = 0 then (0, plv_81, tkv_82, tpv_83, n, hd, fi, un) else j_X1_readRule_93 by_ len n hd fi un nh rv_84 0 plv_81 tkv_82 tpv_83))) else j_X1_readRule_93 by_ len n hd fi un nh 0 0 plv_68 tkv_69 tpv_70))
def s_X1_readRule (by_ : Nat → Int32) (len : Nat) (q : Nat) (tk : Int32) (tp : Int32) (n : Nat) (hd : Nat → Int32) (fi : Nat → Int32) (un : Nat → Int32) : Int32 × Nat × Int32 × Int32 × Nat × (Nat → Int32) × (Nat → Int32) × (Nat → Int32) := (if tk = 10 then (if (s_X0_hasRoom n) = 0 then (0, q, tk, tp, n, hd, fi, un) else j_X1_readRule_57 by_ len q n hd fi un 8) else (if (s_X2_isSentence tk) = 0 then (0, q, tk, tp, n, hd, fi, un) else (if (s_X0_hasRoom n) = 0 then (0, q, tk, tp, n, hd, fi, un) else j_X1_readRule_57 by_ len q n hd fi un tk)))
set_option maxHeartbeats 4000000 in
set_option maxRecDepth 100000 in
theorem c_X1_readRule (l : Launch) (D : va_G) (t0 : Nat) (t1 : Nat) (ct : ClassId) (a0 : Nat) (a1 : Nat) (a2 : Nat) (a3 : Nat) (b1 : ClassId) (b2 : ClassId) (b3 : ClassId) (len : Nat) (q : Nat) (n : Nat) (by_ : Nat → Int32) (tk : Int32) (tp : Int32) (may : Int32) (hd : Nat → Int32) (fi : Nat → Int32) (un : Nat → Int32) (hq : q ≤ len) (hlen : len ≤ 300) (hn : n ≤ 10) (sz : Nat) : Met l yX1_readRule wsX1_readRule ({ frames := 4, cells := 0, slots := 0, locals := 85 }) (va_Pc [.ref t0, .ref a0] (cPre D (tTB t0 t1 ct a0 a1 a2 a3 b1 b2 b3) (wTB t0 t1 ct a0 a1 a2 a3 b1 b2 b3 by_ (nI len) (nI q) tk tp (nI n) may hd fi un) sz)) (va_Qi (fun (r : Int32) (u : Nat × Int32 × Int32 × Nat × (Nat → Int32) × (Nat → Int32) × (Nat → Int32)) => (r, u.1, u.2.1, u.2.2.1, u.2.2.2.1, u.2.2.2.2.1, u.2.2.2.2.2.1, u.2.2.2.2.2.2) = s_X1_readRule by_ len q tk tp n hd fi un ∧ (u.1 ≤ len) ∧ (u.2.2.2.1 ≤ 10)) (rwB D (fun u : Nat × Int32 × Int32 × Nat × (Nat → Int32) × (Nat → Int32) × (Nat → Int32) => (wTB t0 t1 ct a0 a1 a2 a3 b1 b2 b3 by_ (nI len) (nI u.1) u.2.1 u.2.2.1 (nI u.2.2.2.1) may u.2.2.2.2.1 u.2.2.2.2.2.1 u.2.2.2.2.2.2)) (va_A (wTB t0 t1 ct a0 a1 a2 a3 b1 b2 b3 by_ (nI len) (nI q) tk tp (nI n) may hd fi un) sz)) (va_A (wTB t0 t1 ct a0 a1 a2 a3 b1 b2 b3 by_ (nI len) (nI q) tk tp (nI n) may hd fi un) sz)) 0 0 (va_A (wTB t0 t1 ct a0 a1 a2 a3 b1 b2 b3 by_ (nI len) (nI q) tk tp (nI n) may hd fi un) sz) := by
  refine Met.ofW (cc := cX1_readRule) (maxL := 7) (ret := (some .boolean)) (by decide) rfl ?_
  intro p e s m args below meth c s₁ B hml hv
  obtain ⟨rfl, hsz, hP, hK, hD, hN⟩ := hv
  have hx := B.exec
  have hb := B.bytes
  have hr := B.returns
  have hts := atoms_spec (ws := wsX1_readRule) B.pre
  have hown : s.vm.findClass RX1 = some m.cls := findClass_of_methodNamed B.named
  have hlocks := B.notSynchronized
  have hinX1 : ∀ w ∈ wsX10, w ∈ wsX1_readRule := fun w h => List.mem_cons_of_mem _ (List.mem_append_left _ (List.mem_append_right _ h))
  subst hsz
  replace hD := hD.self (sz := s.heap.size)
  generalize hAe : va_A (wTB t0 t1 ct a0 a1 a2 a3 b1 b2 b3 by_ (nI len) (nI q) tk tp (nI n) may hd fi un) s.heap.size = A at hD ⊢
  have hA : ∀ q : Nat, s.heap.size ≤ q → A q := fun q h => by rw [← hAe]; exact Or.inr h
  have hS : va_S A s.heap s.heap [] := va_S.rf
  have hl := lv_entry ([.ref t0, .ref a0]) (n := 7) (Nat.le_of_ble_eq_true rfl)
  rw [lg_entry_eq]
  generalize (lg_sl ([.ref t0, .ref a0]) ++ List.replicate (7 - (lg_sl ([.ref t0, .ref a0])).length) Slot.unset).toArray = ls at hl ⊢
  replace hl : lv_has ls 7 [(0, .ref t0), (1, .ref a0)] := hl
  have hKe := hK.sub (tys' := []) [] rfl
  have cut119 : ∀ (nh : Int32) (ni : Int32) (nu : Int32) (q1 : Nat) (tk1 : Int32) (tp1 : Int32), s_X1_readRule by_ len q tk tp n hd fi un = j_X1_readRule_119 by_ len n hd fi un nh ni nu q1 tk1 tp1 → (q1 ≤ len) → ∀ (H : Heap) (locs : List Loc), va_P D vwCl (wTB t0 t1 ct a0 a1 a2 a3 b1 b2 b3 by_ (nI len) (nI q1) tk1 tp1 (nI n) may hd fi un) H → va_D A (wTB t0 t1 ct a0 a1 a2 a3 b1 b2 b3 by_ (nI len) (nI q1) tk1 tp1 (nI n) may hd fi un) → va_S A s.heap H locs → ∀ ls : Array Slot, lv_has ls 7 [(0, .ref t0), (1, .ref a0), (3, .int nh), (4, .int ni), (5, .int nu)] → W p l e (headSpec wsX1_readRule ({ frames := 4, cells := 0, slots := 0, locals := 85 })).room s m ([.ref t0, .ref a0] : List Value).toArray below meth c H locs 0 0 (MQ below (va_Qi (fun (r : Int32) (u : Nat × Int32 × Int32 × Nat × (Nat → Int32) × (Nat → Int32) × (Nat → Int32)) => (r, u.1, u.2.1, u.2.2.1, u.2.2.2.1, u.2.2.2.2.1, u.2.2.2.2.2.1, u.2.2.2.2.2.2) = s_X1_readRule by_ len q tk tp n hd fi un ∧ (u.1 ≤ len) ∧ (u.2.2.2.1 ≤ 10)) (rwB D (fun u : Nat × Int32 × Int32 × Nat × (Nat → Int32) × (Nat → Int32) × (Nat → Int32) => (wTB t0 t1 ct a0 a1 a2 a3 b1 b2 b3 by_ (nI len) (nI u.1) u.2.1 u.2.2.1 (nI u.2.2.2.1) may u.2.2.2.2.1 u.2.2.2.2.2.1 u.2.2.2.2.2.2)) A) A) ([.ref t0, .ref a0] : List Value).toArray s 0 0 A) (F0 m 119 ls []) := by
    intro nh ni nu q1 tk1 tp1 hq119 hq1 H locs hP hD hS ls hl
    refine lv_iload_n hx hb dX1_readRule_119 rfl (lv_at hl 2 rfl) ?_
    refine lv_bipush (v := 8) hx hb dX1_readRule_120 (by decide) ?_
    refine lv_icmp_ne (tgt := 139) hx hb dX1_readRule_122 (by decide) (fun c_122_1 => ?_) (fun c_122_1 => ?_)
    · refine lv_iconst (v := 0) hx hb dX1_readRule_139 (by decide) ?_
      refine lv_istore (lv' := [(6, .int 0), (0, .ref t0), (1, .ref a0), (3, .int nh), (4, .int ni), (5, .int nu)]) hx hb dX1_readRule_140 hl (by decide) rfl (fun ls hl => ?_)
      refine lv_iload hx hb dX1_readRule_142 (lv_at hl 0 rfl) ?_
      refine lv_if_ne (tgt := 156) hx hb dX1_readRule_144 (by decide) (fun hh_3 => absurd (by decide) hh_3) (fun _ => ?_)
      refine lv_aload_n hx hb dX1_readRule_147 rfl (lv_at hl 1 rfl) ?_
      refine va_get (D := D) (ci := 1) (v := .int tk1) (C := RX1) (T := TX1) (N := 5) hx hb hts hinX1 hown hK hP 0 rfl rfl 3 (by decide) (hts (.fieldLink RX1 30 "HoldUnless$Text" "token" "I") (by decide +kernel)) (fun _ h9 => h9) rfl dX1_readRule_148 ?_
      refine lv_bipush (v := 12) hx hb dX1_readRule_151 (by decide) ?_
      refine lv_icmp_eq (tgt := 158) hx hb dX1_readRule_153 (by decide) (fun c_153_4 => ?_) (fun c_153_4 => ?_)
      · refine lv_aload_n hx hb dX1_readRule_158 rfl (lv_at hl 2 rfl) ?_
        refine lv_iload_n hx hb dX1_readRule_159 rfl (lv_at hl 3 rfl) ?_
        refine lv_iload hx hb dX1_readRule_160 (lv_at hl 4 rfl) ?_
        refine lv_iload hx hb dX1_readRule_162 (lv_at hl 5 rfl) ?_
        have hPc := hP.sub (ws' := (wB a0 a1 a2 a3 b1 b2 b3 (nI n) may hd fi un)) [2, 3, 4, 5] rfl
        have hDc := hD.sub (ws' := (wB a0 a1 a2 a3 b1 b2 b3 (nI n) may hd fi un)) [2, 3, 4, 5] (by decide) rfl
        have hKc := hK.sub (tys' := (tB a0 a1 a2 a3 b1 b2 b3)) [1, 2, 3] rfl
        have hFc := va_free (wc := (wB a0 a1 a2 a3 b1 b2 b3 (nI n) may hd fi un)) hD hS hA [2, 3, 4, 5] rfl
        refine rw_v (D := D) (wc := (wB a0 a1 a2 a3 b1 b2 b3 (nI n) may hd fi un)) (va_runVN (As := [.int nh, .int ni, .int nu]) (rest := []) ⟨hx, hb, hml, hown, hts⟩ (c_X0_add l D a0 a1 a2 a3 b1 b2 b3 n may hd fi un nh ni nu (by first | assumption | omega) _) ⟨(va_cnB 3 hts gX1_readRule_X0_add_n55 rfl rfl rfl (hN.nw 7 rfl) (hts (.initialized RX0) (by decide +kernel)) (by decide +kernel) ⟨Nat.le_of_ble_eq_true rfl, Nat.le_of_ble_eq_true rfl⟩), hts (.instanceMethod yX0_add) (by decide +kernel), hts (.selects RX0 yX0_add yX0_add) (by decide +kernel)⟩ ⟨cPre.blind, va_recv hKc hPc (ci := 0) (q0 := 0) rfl rfl, cPre.mk hPc hKc hDc hN⟩ rfl rfl hl.1 rfl (lv_room (Nat.le_of_ble_eq_true rfl)) dX1_readRule_164 ⟨Nat.zero_le _, Nat.zero_le _⟩) hS hFc (fun u H1 locs hw_10 hP1 hD1 hk1 hS => ?_)
        obtain ⟨szv_5, hdv_6, fiv_7, unv_8⟩ := u
        try dsimp only at hw_10
        obtain ⟨hw_10, hpx_11⟩ := hw_10
        obtain ⟨hP2, hD2⟩ := va_join (wr := [(t0, .inr (1, [.ref t1, .int (nI len), .int (nI q1), .int tk1, .int tp1])), (t1, .inl (ct, 300, .inl by_))]) (w1 := (wB a0 a1 a2 a3 b1 b2 b3 (nI szv_5) may hdv_6 fiv_7 unv_8)) hP hD [2, 3, 4, 5] [0, 1] rfl rfl (by decide) (by decide) hk1 hFc hP1 hD1
        have hP := hP2.sub (ws' := (wTB t0 t1 ct a0 a1 a2 a3 b1 b2 b3 by_ (nI len) (nI q1) tk1 tp1 (nI szv_5) may hdv_6 fiv_7 unv_8)) [0, 1, 2, 3, 4, 5] rfl
        have hD := hD2.sub (ws' := (wTB t0 t1 ct a0 a1 a2 a3 b1 b2 b3 by_ (nI len) (nI q1) tk1 tp1 (nI szv_5) may hdv_6 fiv_7 unv_8)) [0, 1, 2, 3, 4, 5] (by decide) rfl
        clear hP1 hD1 hFc hk1
        generalize H1 = H at hP hS ⊢
        refine lv_aload_n hx hb dX1_readRule_167 rfl (lv_at hl 1 rfl) ?_
        have hPc := hP.sub (ws' := (wT t0 t1 ct by_ (nI len) (nI q1) tk1 tp1)) [0, 1] rfl
        have hDc := hD.sub (ws' := (wT t0 t1 ct by_ (nI len) (nI q1) tk1 tp1)) [0, 1] (by decide) rfl
        have hKc := hK.sub (tys' := (tT t0 t1 ct)) [0] rfl
        have hFc := va_free (wc := (wT t0 t1 ct by_ (nI len) (nI q1) tk1 tp1)) hD hS hA [0, 1] rfl
        refine rw_v (D := D) (wc := (wT t0 t1 ct by_ (nI len) (nI q1) tk1 tp1)) (va_runV (As := []) (rest := []) ⟨hx, hb, hml, hown, hts⟩ (c_X1_advance l D t0 t1 ct len q1 by_ tk1 tp1 (by first | assumption | omega) (by first | assumption | omega) _) (cwV 0 hts gX1_readRule_X1_advance rfl rfl rfl (by decide +kernel) ⟨Nat.le_of_ble_eq_true rfl, Nat.le_of_ble_eq_true rfl⟩) ⟨cPre.blind, va_recv hKc hPc (ci := 1) (q0 := 0) rfl rfl, cPre.mk hPc hKc hDc hN⟩ rfl rfl hl.1 rfl (lv_room (Nat.le_of_ble_eq_true rfl)) dX1_readRule_168 ⟨Nat.zero_le _, Nat.zero_le _⟩) hS hFc (fun u H1 locs hw_16 hP1 hD1 hk1 hS => ?_)
        obtain ⟨plv_12, tkv_13, tpv_14⟩ := u
        try dsimp only at hw_16
        obtain ⟨hw_16, hpx_17⟩ := hw_16
        obtain ⟨hP2, hD2⟩ := va_join (wr := [(a0, .inr (0, [.int (nI szv_5), .int may, .ref a1, .ref a2, .ref a3])), (a1, .inl (b1, 10, .inl hdv_6)), (a2, .inl (b2, 10, .inl fiv_7)), (a3, .inl (b3, 10, .inl unv_8))]) (w1 := (wT t0 t1 ct by_ (nI len) (nI plv_12) tkv_13 tpv_14)) hP hD [0, 1] [2, 3, 4, 5] rfl rfl (by decide) (by decide) hk1 hFc hP1 hD1
        have hP := hP2.sub (ws' := (wTB t0 t1 ct a0 a1 a2 a3 b1 b2 b3 by_ (nI len) (nI plv_12) tkv_13 tpv_14 (nI szv_5) may hdv_6 fiv_7 unv_8)) [4, 5, 0, 1, 2, 3] rfl
        have hD := hD2.sub (ws' := (wTB t0 t1 ct a0 a1 a2 a3 b1 b2 b3 by_ (nI len) (nI plv_12) tkv_13 tpv_14 (nI szv_5) may hdv_6 fiv_7 unv_8)) [4, 5, 0, 1, 2, 3] (by decide) rfl
        clear hP1 hD1 hFc hk1
        generalize H1 = H at hP hS ⊢
        refine lv_iconst (v := 1) hx hb dX1_readRule_171 (by decide) ?_
        exact rw_zret hx hb hr hS hlocks (plv_12, tkv_13, tpv_14, szv_5, hdv_6, fiv_7, unv_8) ⟨(hq119.trans (show j_X1_readRule_119 by_ len n hd fi un nh ni nu q1 tk1 tp1 = (1, plv_12, tkv_13, tpv_14, szv_5, hdv_6, fiv_7, unv_8) from by (unfold j_X1_readRule_119; (try dsimp only); (try rw [if_neg c_122_1]); (try rw [if_pos c_153_4]); (try rw [← hw_10]); (try dsimp only); (try rw [← hw_16]); (try dsimp only); first | done | rfl))).symm, (by first | assumption | omega | rfl | exact Or.inl rfl | exact Or.inr (by omega) | (dsimp only; omega) | (dsimp only; intro h; omega) | (intro h; rcases h with h | h <;> contradiction)), (by first | assumption | omega | rfl | exact Or.inl rfl | exact Or.inr (by omega) | (dsimp only; omega) | (dsimp only; intro h; omega) | (intro h; rcases h with h | h <;> contradiction))⟩ hP hD (by decide +kernel) dX1_readRule_172
      · refine lv_iconst (v := 0) hx hb dX1_readRule_156 (by decide) ?_
        exact rw_zret hx hb hr hS hlocks (q1, tk1, tp1, n, hd, fi, un) ⟨(hq119.trans (show j_X1_readRule_119 by_ len n hd fi un nh ni nu q1 tk1 tp1 = (0, q1, tk1, tp1, n, hd, fi, un) from by (unfold j_X1_readRule_119; (try dsimp only); (try rw [if_neg c_122_1]); (try rw [if_neg c_153_4]); first | done | rfl))).symm, (by first | assumption | omega | rfl | exact Or.inl rfl | exact Or.inr (by omega) | (dsimp only; omega) | (dsimp only; intro h; omega) | (intro h; rcases h with h | h <;> contradiction)), (by first | assumption | omega | rfl | exact Or.inl rfl | exact Or.inr (by omega) | (dsimp only; omega) | (dsimp only; intro h; omega) | (intro h; rcases h with h | h <;> contradiction))⟩ hP hD (by decide +kernel) dX1_readRule_157
    · refine lv_iload hx hb dX1_readRule_125 (lv_at hl 3 rfl) ?_
      refine lv_if_ne (tgt := 139) hx hb dX1_readRule_127 (by decide) (fun c_127_18 => ?_) (fun c_127_18 => ?_)
      · refine lv_iconst (v := 0) hx hb dX1_readRule_139 (by decide) ?_
        refine lv_istore (lv' := [(6, .int 0), (0, .ref t0), (1, .ref a0), (3, .int nh), (4, .int ni), (5, .int nu)]) hx hb dX1_readRule_140 hl (by decide) rfl (fun ls hl => ?_)
        refine lv_iload hx hb dX1_readRule_142 (lv_at hl 0 rfl) ?_
        refine lv_if_ne (tgt := 156) hx hb dX1_readRule_144 (by decide) (fun hh_20 => absurd (by decide) hh_20) (fun _ => ?_)
        refine lv_aload_n hx hb dX1_readRule_147 rfl (lv_at hl 1 rfl) ?_
        refine va_get (D := D) (ci := 1) (v := .int tk1) (C := RX1) (T := TX1) (N := 5) hx hb hts hinX1 hown hK hP 0 rfl rfl 3 (by decide) (hts (.fieldLink RX1 30 "HoldUnless$Text" "token" "I") (by decide +kernel)) (fun _ h9 => h9) rfl dX1_readRule_148 ?_
        refine lv_bipush (v := 12) hx hb dX1_readRule_151 (by decide) ?_
        refine lv_icmp_eq (tgt := 158) hx hb dX1_readRule_153 (by decide) (fun c_153_21 => ?_) (fun c_153_21 => ?_)
        · refine lv_aload_n hx hb dX1_readRule_158 rfl (lv_at hl 2 rfl) ?_
          refine lv_iload_n hx hb dX1_readRule_159 rfl (lv_at hl 3 rfl) ?_
          refine lv_iload hx hb dX1_readRule_160 (lv_at hl 4 rfl) ?_
          refine lv_iload hx hb dX1_readRule_162 (lv_at hl 5 rfl) ?_
          have hPc := hP.sub (ws' := (wB a0 a1 a2 a3 b1 b2 b3 (nI n) may hd fi un)) [2, 3, 4, 5] rfl
          have hDc := hD.sub (ws' := (wB a0 a1 a2 a3 b1 b2 b3 (nI n) may hd fi un)) [2, 3, 4, 5] (by decide) rfl
          have hKc := hK.sub (tys' := (tB a0 a1 a2 a3 b1 b2 b3)) [1, 2, 3] rfl
          have hFc := va_free (wc := (wB a0 a1 a2 a3 b1 b2 b3 (nI n) may hd fi un)) hD hS hA [2, 3, 4, 5] rfl
          refine rw_v (D := D) (wc := (wB a0 a1 a2 a3 b1 b2 b3 (nI n) may hd fi un)) (va_runVN (As := [.int nh, .int ni, .int nu]) (rest := []) ⟨hx, hb, hml, hown, hts⟩ (c_X0_add l D a0 a1 a2 a3 b1 b2 b3 n may hd fi un nh ni nu (by first | assumption | omega) _) ⟨(va_cnB 3 hts gX1_readRule_X0_add_n55 rfl rfl rfl (hN.nw 7 rfl) (hts (.initialized RX0) (by decide +kernel)) (by decide +kernel) ⟨Nat.le_of_ble_eq_true rfl, Nat.le_of_ble_eq_true rfl⟩), hts (.instanceMethod yX0_add) (by decide +kernel), hts (.selects RX0 yX0_add yX0_add) (by decide +kernel)⟩ ⟨cPre.blind, va_recv hKc hPc (ci := 0) (q0 := 0) rfl rfl, cPre.mk hPc hKc hDc hN⟩ rfl rfl hl.1 rfl (lv_room (Nat.le_of_ble_eq_true rfl)) dX1_readRule_164 ⟨Nat.zero_le _, Nat.zero_le _⟩) hS hFc (fun u H1 locs hw_27 hP1 hD1 hk1 hS => ?_)
          obtain ⟨szv_22, hdv_23, fiv_24, unv_25⟩ := u
          try dsimp only at hw_27
          obtain ⟨hw_27, hpx_28⟩ := hw_27
          obtain ⟨hP2, hD2⟩ := va_join (wr := [(t0, .inr (1, [.ref t1, .int (nI len), .int (nI q1), .int tk1, .int tp1])), (t1, .inl (ct, 300, .inl by_))]) (w1 := (wB a0 a1 a2 a3 b1 b2 b3 (nI szv_22) may hdv_23 fiv_24 unv_25)) hP hD [2, 3, 4, 5] [0, 1] rfl rfl (by decide) (by decide) hk1 hFc hP1 hD1
          have hP := hP2.sub (ws' := (wTB t0 t1 ct a0 a1 a2 a3 b1 b2 b3 by_ (nI len) (nI q1) tk1 tp1 (nI szv_22) may hdv_23 fiv_24 unv_25)) [0, 1, 2, 3, 4, 5] rfl
          have hD := hD2.sub (ws' := (wTB t0 t1 ct a0 a1 a2 a3 b1 b2 b3 by_ (nI len) (nI q1) tk1 tp1 (nI szv_22) may hdv_23 fiv_24 unv_25)) [0, 1, 2, 3, 4, 5] (by decide) rfl
          clear hP1 hD1 hFc hk1
          generalize H1 = H at hP hS ⊢
          refine lv_aload_n hx hb dX1_readRule_167 rfl (lv_at hl 1 rfl) ?_
          have hPc := hP.sub (ws' := (wT t0 t1 ct by_ (nI len) (nI q1) tk1 tp1)) [0, 1] rfl
          have hDc := hD.sub (ws' := (wT t0 t1 ct by_ (nI len) (nI q1) tk1 tp1)) [0, 1] (by decide) rfl
          have hKc := hK.sub (tys' := (tT t0 t1 ct)) [0] rfl
          have hFc := va_free (wc := (wT t0 t1 ct by_ (nI len) (nI q1) tk1 tp1)) hD hS hA [0, 1] rfl
          refine rw_v (D := D) (wc := (wT t0 t1 ct by_ (nI len) (nI q1) tk1 tp1)) (va_runV (As := []) (rest := []) ⟨hx, hb, hml, hown, hts⟩ (c_X1_advance l D t0 t1 ct len q1 by_ tk1 tp1 (by first | assumption | omega) (by first | assumption | omega) _) (cwV 0 hts gX1_readRule_X1_advance rfl rfl rfl (by decide +kernel) ⟨Nat.le_of_ble_eq_true rfl, Nat.le_of_ble_eq_true rfl⟩) ⟨cPre.blind, va_recv hKc hPc (ci := 1) (q0 := 0) rfl rfl, cPre.mk hPc hKc hDc hN⟩ rfl rfl hl.1 rfl (lv_room (Nat.le_of_ble_eq_true rfl)) dX1_readRule_168 ⟨Nat.zero_le _, Nat.zero_le _⟩) hS hFc (fun u H1 locs hw_33 hP1 hD1 hk1 hS => ?_)
          obtain ⟨plv_29, tkv_30, tpv_31⟩ := u
          try dsimp only at hw_33
          obtain ⟨hw_33, hpx_34⟩ := hw_33
          obtain ⟨hP2, hD2⟩ := va_join (wr := [(a0, .inr (0, [.int (nI szv_22), .int may, .ref a1, .ref a2, .ref a3])), (a1, .inl (b1, 10, .inl hdv_23)), (a2, .inl (b2, 10, .inl fiv_24)), (a3, .inl (b3, 10, .inl unv_25))]) (w1 := (wT t0 t1 ct by_ (nI len) (nI plv_29) tkv_30 tpv_31)) hP hD [0, 1] [2, 3, 4, 5] rfl rfl (by decide) (by decide) hk1 hFc hP1 hD1
          have hP := hP2.sub (ws' := (wTB t0 t1 ct a0 a1 a2 a3 b1 b2 b3 by_ (nI len) (nI plv_29) tkv_30 tpv_31 (nI szv_22) may hdv_23 fiv_24 unv_25)) [4, 5, 0, 1, 2, 3] rfl
          have hD := hD2.sub (ws' := (wTB t0 t1 ct a0 a1 a2 a3 b1 b2 b3 by_ (nI len) (nI plv_29) tkv_30 tpv_31 (nI szv_22) may hdv_23 fiv_24 unv_25)) [4, 5, 0, 1, 2, 3] (by decide) rfl
          clear hP1 hD1 hFc hk1
          generalize H1 = H at hP hS ⊢
          refine lv_iconst (v := 1) hx hb dX1_readRule_171 (by decide) ?_
          exact rw_zret hx hb hr hS hlocks (plv_29, tkv_30, tpv_31, szv_22, hdv_23, fiv_24, unv_25) ⟨(hq119.trans (show j_X1_readRule_119 by_ len n hd fi un nh ni nu q1 tk1 tp1 = (1, plv_29, tkv_30, tpv_31, szv_22, hdv_23, fiv_24, unv_25) from by (unfold j_X1_readRule_119; (try dsimp only); (try rw [if_pos c_122_1]); (try rw [if_neg c_127_18]); (try rw [if_pos c_153_21]); (try rw [← hw_27]); (try dsimp only); (try rw [← hw_33]); (try dsimp only); first | done | rfl))).symm, (by first | assumption | omega | rfl | exact Or.inl rfl | exact Or.inr (by omega) | (dsimp only; omega) | (dsimp only; intro h; omega) | (intro h; rcases h with h | h <;> contradiction)), (by first | assumption | omega | rfl | exact Or.inl rfl | exact Or.inr (by omega) | (dsimp only; omega) | (dsimp only; intro h; omega) | (intro h; rcases h with h | h <;> contradiction))⟩ hP hD (by decide +kernel) dX1_readRule_172
        · refine lv_iconst (v := 0) hx hb dX1_readRule_156 (by decide) ?_
          exact rw_zret hx hb hr hS hlocks (q1, tk1, tp1, n, hd, fi, un) ⟨(hq119.trans (show j_X1_readRule_119 by_ len n hd fi un nh ni nu q1 tk1 tp1 = (0, q1, tk1, tp1, n, hd, fi, un) from by (unfold j_X1_readRule_119; (try dsimp only); (try rw [if_pos c_122_1]); (try rw [if_neg c_127_18]); (try rw [if_neg c_153_21]); first | done | rfl))).symm, (by first | assumption | omega | rfl | exact Or.inl rfl | exact Or.inr (by omega) | (dsimp only; omega) | (dsimp only; intro h; omega) | (intro h; rcases h with h | h <;> contradiction)), (by first | assumption | omega | rfl | exact Or.inl rfl | exact Or.inr (by omega) | (dsimp only; omega) | (dsimp only; intro h; omega) | (intro h; rcases h with h | h <;> contradiction))⟩ hP hD (by decide +kernel) dX1_readRule_157
      · refine lv_iload hx hb dX1_readRule_130 (lv_at hl 4 rfl) ?_
        refine lv_if_ne (tgt := 139) hx hb dX1_readRule_132 (by decide) (fun c_132_35 => ?_) (fun c_132_35 => ?_)
        · refine lv_iconst (v := 0) hx hb dX1_readRule_139 (by decide) ?_
          refine lv_istore (lv' := [(6, .int 0), (0, .ref t0), (1, .ref a0), (3, .int nh), (4, .int ni), (5, .int nu)]) hx hb dX1_readRule_140 hl (by decide) rfl (fun ls hl => ?_)
          refine lv_iload hx hb dX1_readRule_142 (lv_at hl 0 rfl) ?_
          refine lv_if_ne (tgt := 156) hx hb dX1_readRule_144 (by decide) (fun hh_37 => absurd (by decide) hh_37) (fun _ => ?_)
          refine lv_aload_n hx hb dX1_readRule_147 rfl (lv_at hl 1 rfl) ?_
          refine va_get (D := D) (ci := 1) (v := .int tk1) (C := RX1) (T := TX1) (N := 5) hx hb hts hinX1 hown hK hP 0 rfl rfl 3 (by decide) (hts (.fieldLink RX1 30 "HoldUnless$Text" "token" "I") (by decide +kernel)) (fun _ h9 => h9) rfl dX1_readRule_148 ?_
          refine lv_bipush (v := 12) hx hb dX1_readRule_151 (by decide) ?_
          refine lv_icmp_eq (tgt := 158) hx hb dX1_readRule_153 (by decide) (fun c_153_38 => ?_) (fun c_153_38 => ?_)
          · refine lv_aload_n hx hb dX1_readRule_158 rfl (lv_at hl 2 rfl) ?_
            refine lv_iload_n hx hb dX1_readRule_159 rfl (lv_at hl 3 rfl) ?_
            refine lv_iload hx hb dX1_readRule_160 (lv_at hl 4 rfl) ?_
            refine lv_iload hx hb dX1_readRule_162 (lv_at hl 5 rfl) ?_
            have hPc := hP.sub (ws' := (wB a0 a1 a2 a3 b1 b2 b3 (nI n) may hd fi un)) [2, 3, 4, 5] rfl
            have hDc := hD.sub (ws' := (wB a0 a1 a2 a3 b1 b2 b3 (nI n) may hd fi un)) [2, 3, 4, 5] (by decide) rfl
            have hKc := hK.sub (tys' := (tB a0 a1 a2 a3 b1 b2 b3)) [1, 2, 3] rfl
            have hFc := va_free (wc := (wB a0 a1 a2 a3 b1 b2 b3 (nI n) may hd fi un)) hD hS hA [2, 3, 4, 5] rfl
            refine rw_v (D := D) (wc := (wB a0 a1 a2 a3 b1 b2 b3 (nI n) may hd fi un)) (va_runVN (As := [.int nh, .int ni, .int nu]) (rest := []) ⟨hx, hb, hml, hown, hts⟩ (c_X0_add l D a0 a1 a2 a3 b1 b2 b3 n may hd fi un nh ni nu (by first | assumption | omega) _) ⟨(va_cnB 3 hts gX1_readRule_X0_add_n55 rfl rfl rfl (hN.nw 7 rfl) (hts (.initialized RX0) (by decide +kernel)) (by decide +kernel) ⟨Nat.le_of_ble_eq_true rfl, Nat.le_of_ble_eq_true rfl⟩), hts (.instanceMethod yX0_add) (by decide +kernel), hts (.selects RX0 yX0_add yX0_add) (by decide +kernel)⟩ ⟨cPre.blind, va_recv hKc hPc (ci := 0) (q0 := 0) rfl rfl, cPre.mk hPc hKc hDc hN⟩ rfl rfl hl.1 rfl (lv_room (Nat.le_of_ble_eq_true rfl)) dX1_readRule_164 ⟨Nat.zero_le _, Nat.zero_le _⟩) hS hFc (fun u H1 locs hw_44 hP1 hD1 hk1 hS => ?_)
            obtain ⟨szv_39, hdv_40, fiv_41, unv_42⟩ := u
            try dsimp only at hw_44
            obtain ⟨hw_44, hpx_45⟩ := hw_44
            obtain ⟨hP2, hD2⟩ := va_join (wr := [(t0, .inr (1, [.ref t1, .int (nI len), .int (nI q1), .int tk1, .int tp1])), (t1, .inl (ct, 300, .inl by_))]) (w1 := (wB a0 a1 a2 a3 b1 b2 b3 (nI szv_39) may hdv_40 fiv_41 unv_42)) hP hD [2, 3, 4, 5] [0, 1] rfl rfl (by decide) (by decide) hk1 hFc hP1 hD1
            have hP := hP2.sub (ws' := (wTB t0 t1 ct a0 a1 a2 a3 b1 b2 b3 by_ (nI len) (nI q1) tk1 tp1 (nI szv_39) may hdv_40 fiv_41 unv_42)) [0, 1, 2, 3, 4, 5] rfl
            have hD := hD2.sub (ws' := (wTB t0 t1 ct a0 a1 a2 a3 b1 b2 b3 by_ (nI len) (nI q1) tk1 tp1 (nI szv_39) may hdv_40 fiv_41 unv_42)) [0, 1, 2, 3, 4, 5] (by decide) rfl
            clear hP1 hD1 hFc hk1
            generalize H1 = H at hP hS ⊢
            refine lv_aload_n hx hb dX1_readRule_167 rfl (lv_at hl 1 rfl) ?_
            have hPc := hP.sub (ws' := (wT t0 t1 ct by_ (nI len) (nI q1) tk1 tp1)) [0, 1] rfl
            have hDc := hD.sub (ws' := (wT t0 t1 ct by_ (nI len) (nI q1) tk1 tp1)) [0, 1] (by decide) rfl
            have hKc := hK.sub (tys' := (tT t0 t1 ct)) [0] rfl
            have hFc := va_free (wc := (wT t0 t1 ct by_ (nI len) (nI q1) tk1 tp1)) hD hS hA [0, 1] rfl
            refine rw_v (D := D) (wc := (wT t0 t1 ct by_ (nI len) (nI q1) tk1 tp1)) (va_runV (As := []) (rest := []) ⟨hx, hb, hml, hown, hts⟩ (c_X1_advance l D t0 t1 ct len q1 by_ tk1 tp1 (by first | assumption | omega) (by first | assumption | omega) _) (cwV 0 hts gX1_readRule_X1_advance rfl rfl rfl (by decide +kernel) ⟨Nat.le_of_ble_eq_true rfl, Nat.le_of_ble_eq_true rfl⟩) ⟨cPre.blind, va_recv hKc hPc (ci := 1) (q0 := 0) rfl rfl, cPre.mk hPc hKc hDc hN⟩ rfl rfl hl.1 rfl (lv_room (Nat.le_of_ble_eq_true rfl)) dX1_readRule_168 ⟨Nat.zero_le _, Nat.zero_le _⟩) hS hFc (fun u H1 locs hw_50 hP1 hD1 hk1 hS => ?_)
            obtain ⟨plv_46, tkv_47, tpv_48⟩ := u
            try dsimp only at hw_50
            obtain ⟨hw_50, hpx_51⟩ := hw_50
            obtain ⟨hP2, hD2⟩ := va_join (wr := [(a0, .inr (0, [.int (nI szv_39), .int may, .ref a1, .ref a2, .ref a3])), (a1, .inl (b1, 10, .inl hdv_40)), (a2, .inl (b2, 10, .inl fiv_41)), (a3, .inl (b3, 10, .inl unv_42))]) (w1 := (wT t0 t1 ct by_ (nI len) (nI plv_46) tkv_47 tpv_48)) hP hD [0, 1] [2, 3, 4, 5] rfl rfl (by decide) (by decide) hk1 hFc hP1 hD1
            have hP := hP2.sub (ws' := (wTB t0 t1 ct a0 a1 a2 a3 b1 b2 b3 by_ (nI len) (nI plv_46) tkv_47 tpv_48 (nI szv_39) may hdv_40 fiv_41 unv_42)) [4, 5, 0, 1, 2, 3] rfl
            have hD := hD2.sub (ws' := (wTB t0 t1 ct a0 a1 a2 a3 b1 b2 b3 by_ (nI len) (nI plv_46) tkv_47 tpv_48 (nI szv_39) may hdv_40 fiv_41 unv_42)) [4, 5, 0, 1, 2, 3] (by decide) rfl
            clear hP1 hD1 hFc hk1
            generalize H1 = H at hP hS ⊢
            refine lv_iconst (v := 1) hx hb dX1_readRule_171 (by decide) ?_
            exact rw_zret hx hb hr hS hlocks (plv_46, tkv_47, tpv_48, szv_39, hdv_40, fiv_41, unv_42) ⟨(hq119.trans (show j_X1_readRule_119 by_ len n hd fi un nh ni nu q1 tk1 tp1 = (1, plv_46, tkv_47, tpv_48, szv_39, hdv_40, fiv_41, unv_42) from by (unfold j_X1_readRule_119; (try dsimp only); (try rw [if_pos c_122_1]); (try rw [if_pos c_127_18]); (try rw [if_neg c_132_35]); (try rw [if_pos c_153_38]); (try rw [← hw_44]); (try dsimp only); (try rw [← hw_50]); (try dsimp only); first | done | rfl))).symm, (by first | assumption | omega | rfl | exact Or.inl rfl | exact Or.inr (by omega) | (dsimp only; omega) | (dsimp only; intro h; omega) | (intro h; rcases h with h | h <;> contradiction)), (by first | assumption | omega | rfl | exact Or.inl rfl | exact Or.inr (by omega) | (dsimp only; omega) | (dsimp only; intro h; omega) | (intro h; rcases h with h | h <;> contradiction))⟩ hP hD (by decide +kernel) dX1_readRule_172
          · refine lv_iconst (v := 0) hx hb dX1_readRule_156 (by decide) ?_
            exact rw_zret hx hb hr hS hlocks (q1, tk1, tp1, n, hd, fi, un) ⟨(hq119.trans (show j_X1_readRule_119 by_ len n hd fi un nh ni nu q1 tk1 tp1 = (0, q1, tk1, tp1, n, hd, fi, un) from by (unfold j_X1_readRule_119; (try dsimp only); (try rw [if_pos c_122_1]); (try rw [if_pos c_127_18]); (try rw [if_neg c_132_35]); (try rw [if_neg c_153_38]); first | done | rfl))).symm, (by first | assumption | omega | rfl | exact Or.inl rfl | exact Or.inr (by omega) | (dsimp only; omega) | (dsimp only; intro h; omega) | (intro h; rcases h with h | h <;> contradiction)), (by first | assumption | omega | rfl | exact Or.inl rfl | exact Or.inr (by omega) | (dsimp only; omega) | (dsimp only; intro h; omega) | (intro h; rcases h with h | h <;> contradiction))⟩ hP hD (by decide +kernel) dX1_readRule_157
        · refine lv_iconst (v := 1) hx hb dX1_readRule_135 (by decide) ?_
          refine lv_goto (tgt := 140) hx hb dX1_readRule_136 (by decide) ?_
          refine lv_istore (lv' := [(6, .int 1), (0, .ref t0), (1, .ref a0), (3, .int nh), (4, .int ni), (5, .int nu)]) hx hb dX1_readRule_140 hl (by decide) rfl (fun ls hl => ?_)
          refine lv_iload hx hb dX1_readRule_142 (lv_at hl 0 rfl) ?_
          refine lv_if_ne (tgt := 156) hx hb dX1_readRule_144 (by decide) (fun _ => ?_) (fun hh_53 => absurd hh_53 (by decide))
          refine lv_iconst (v := 0) hx hb dX1_readRule_156 (by decide) ?_
          exact rw_zret hx hb hr hS hlocks (q1, tk1, tp1, n, hd, fi, un) ⟨(hq119.trans (show j_X1_readRule_119 by_ len n hd fi un nh ni nu q1 tk1 tp1 = (0, q1, tk1, tp1, n, hd, fi, un) from by (unfold j_X1_readRule_119; (try dsimp only); (try rw [if_pos c_122_1]); (try rw [if_pos c_127_18]); (try rw [if_pos c_132_35]); first | done | rfl))).symm, (by first | assumption | omega | rfl | exact Or.inl rfl | exact Or.inr (by omega) | (dsimp only; omega) | (dsimp only; intro h; omega) | (intro h; rcases h with h | h <;> contradiction)), (by first | assumption | omega | rfl | exact Or.inl rfl | exact Or.inr (by omega) | (dsimp only; omega) | (dsimp only; intro h; omega) | (intro h; rcases h with h | h <;> contradiction))⟩ hP hD (by decide +kernel) dX1_readRule_157
  have cut93 : ∀ (nh : Int32) (ni : Int32) (nu : Int32) (q1 : Nat) (tk1 : Int32) (tp1 : Int32), s_X1_readRule by_ len q tk tp n hd fi un = j_X1_readRule_93 by_ len n hd fi un nh ni nu q1 tk1 tp1 → (q1 ≤ len) → ∀ (H : Heap) (locs : List Loc), va_P D vwCl (wTB t0 t1 ct a0 a1 a2 a3 b1 b2 b3 by_ (nI len) (nI q1) tk1 tp1 (nI n) may hd fi un) H → va_D A (wTB t0 t1 ct a0 a1 a2 a3 b1 b2 b3 by_ (nI len) (nI q1) tk1 tp1 (nI n) may hd fi un) → va_S A s.heap H locs → ∀ ls : Array Slot, lv_has ls 7 [(0, .ref t0), (1, .ref a0), (3, .int nh), (4, .int ni), (5, .int nu)] → W p l e (headSpec wsX1_readRule ({ frames := 4, cells := 0, slots := 0, locals := 85 })).room s m ([.ref t0, .ref a0] : List Value).toArray below meth c H locs 0 0 (MQ below (va_Qi (fun (r : Int32) (u : Nat × Int32 × Int32 × Nat × (Nat → Int32) × (Nat → Int32) × (Nat → Int32)) => (r, u.1, u.2.1, u.2.2.1, u.2.2.2.1, u.2.2.2.2.1, u.2.2.2.2.2.1, u.2.2.2.2.2.2) = s_X1_readRule by_ len q tk tp n hd fi un ∧ (u.1 ≤ len) ∧ (u.2.2.2.1 ≤ 10)) (rwB D (fun u : Nat × Int32 × Int32 × Nat × (Nat → Int32) × (Nat → Int32) × (Nat → Int32) => (wTB t0 t1 ct a0 a1 a2 a3 b1 b2 b3 by_ (nI len) (nI u.1) u.2.1 u.2.2.1 (nI u.2.2.2.1) may u.2.2.2.2.1 u.2.2.2.2.2.1 u.2.2.2.2.2.2)) A) A) ([.ref t0, .ref a0] : List Value).toArray s 0 0 A) (F0 m 93 ls []) := by
    intro nh ni nu q1 tk1 tp1 hq93 hq1 H locs hP hD hS ls hl
    refine lv_aload_n hx hb dX1_readRule_93 rfl (lv_at hl 0 rfl) ?_
    refine va_get (D := D) (ci := 1) (v := .int tk1) (C := RX1) (T := TX1) (N := 5) hx hb hts hinX1 hown hK hP 0 rfl rfl 3 (by decide) (hts (.fieldLink RX1 30 "HoldUnless$Text" "token" "I") (by decide +kernel)) (fun _ h9 => h9) rfl dX1_readRule_94 ?_
    refine lv_bipush (v := 9) hx hb dX1_readRule_97 (by decide) ?_
    refine lv_icmp_ne (tgt := 119) hx hb dX1_readRule_99 (by decide) (fun c_99_54 => ?_) (fun c_99_54 => ?_)
    · exact cut119 nh ni nu q1 tk1 tp1 (hq93.trans (show j_X1_readRule_93 by_ len n hd fi un nh ni nu q1 tk1 tp1 = j_X1_readRule_119 by_ len n hd fi un nh ni nu q1 tk1 tp1 from by (unfold j_X1_readRule_93; (try dsimp only); (try rw [if_neg c_99_54]); first | done | rfl))) (by first | assumption | omega) _ _ hP hD hS _ (lv_sub hl [0, 1, 2, 3, 4] rfl)
    · refine lv_aload_n hx hb dX1_readRule_102 rfl (lv_at hl 0 rfl) ?_
      have hPc := hP.sub (ws' := (wT t0 t1 ct by_ (nI len) (nI q1) tk1 tp1)) [0, 1] rfl
      have hDc := hD.sub (ws' := (wT t0 t1 ct by_ (nI len) (nI q1) tk1 tp1)) [0, 1] (by decide) rfl
      have hKc := hK.sub (tys' := (tT t0 t1 ct)) [0] rfl
      have hFc := va_free (wc := (wT t0 t1 ct by_ (nI len) (nI q1) tk1 tp1)) hD hS hA [0, 1] rfl
      refine rw_v (D := D) (wc := (wT t0 t1 ct by_ (nI len) (nI q1) tk1 tp1)) (va_runV (As := []) (rest := []) ⟨hx, hb, hml, hown, hts⟩ (c_X1_advance l D t0 t1 ct len q1 by_ tk1 tp1 (by first | assumption | omega) (by first | assumption | omega) _) (cwV 0 hts gX1_readRule_X1_advance rfl rfl rfl (by decide +kernel) ⟨Nat.le_of_ble_eq_true rfl, Nat.le_of_ble_eq_true rfl⟩) ⟨cPre.blind, va_recv hKc hPc (ci := 1) (q0 := 0) rfl rfl, cPre.mk hPc hKc hDc hN⟩ rfl rfl hl.1 rfl (lv_room (Nat.le_of_ble_eq_true rfl)) dX1_readRule_103 ⟨Nat.zero_le _, Nat.zero_le _⟩) hS hFc (fun u H1 locs hw_59 hP1 hD1 hk1 hS => ?_)
      obtain ⟨plv_55, tkv_56, tpv_57⟩ := u
      try dsimp only at hw_59
      obtain ⟨hw_59, hpx_60⟩ := hw_59
      obtain ⟨hP2, hD2⟩ := va_join (wr := [(a0, .inr (0, [.int (nI n), .int may, .ref a1, .ref a2, .ref a3])), (a1, .inl (b1, 10, .inl hd)), (a2, .inl (b2, 10, .inl fi)), (a3, .inl (b3, 10, .inl un))]) (w1 := (wT t0 t1 ct by_ (nI len) (nI plv_55) tkv_56 tpv_57)) hP hD [0, 1] [2, 3, 4, 5] rfl rfl (by decide) (by decide) hk1 hFc hP1 hD1
      have hP := hP2.sub (ws' := (wTB t0 t1 ct a0 a1 a2 a3 b1 b2 b3 by_ (nI len) (nI plv_55) tkv_56 tpv_57 (nI n) may hd fi un)) [4, 5, 0, 1, 2, 3] rfl
      have hD := hD2.sub (ws' := (wTB t0 t1 ct a0 a1 a2 a3 b1 b2 b3 by_ (nI len) (nI plv_55) tkv_56 tpv_57 (nI n) may hd fi un)) [4, 5, 0, 1, 2, 3] (by decide) rfl
      clear hP1 hD1 hFc hk1
      generalize H1 = H at hP hS ⊢
      refine lv_aload_n hx hb dX1_readRule_106 rfl (lv_at hl 0 rfl) ?_
      have hPc := hP.sub (ws' := (wT t0 t1 ct by_ (nI len) (nI plv_55) tkv_56 tpv_57)) [0, 1] rfl
      have hDc := hD.sub (ws' := (wT t0 t1 ct by_ (nI len) (nI plv_55) tkv_56 tpv_57)) [0, 1] (by decide) rfl
      have hKc := hK.sub (tys' := (tT t0 t1 ct)) [0] rfl
      have hFc := va_free (wc := (wT t0 t1 ct by_ (nI len) (nI plv_55) tkv_56 tpv_57)) hD hS hA [0, 1] rfl
      refine rw_i (D := D) (wc := (wT t0 t1 ct by_ (nI len) (nI plv_55) tkv_56 tpv_57)) (va_runV (As := []) (rest := []) ⟨hx, hb, hml, hown, hts⟩ (c_X1_readSentences l D t0 t1 ct len plv_55 by_ tkv_56 tpv_57 (by first | assumption | omega) (by first | assumption | omega) _) (cwV 0 hts gX1_readRule_X1_readSentences rfl rfl rfl (by decide +kernel) ⟨Nat.le_of_ble_eq_true rfl, Nat.le_of_ble_eq_true rfl⟩) ⟨cPre.blind, va_recv hKc hPc (ci := 1) (q0 := 0) rfl rfl, cPre.mk hPc hKc hDc hN⟩ rfl rfl hl.1 rfl (lv_room (Nat.le_of_ble_eq_true rfl)) dX1_readRule_107 ⟨Nat.zero_le _, Nat.zero_le _⟩) hS hFc (fun rv_64 u H1 locs hw_65 hP1 hD1 hk1 hS => ?_)
      obtain ⟨plv_61, tkv_62, tpv_63⟩ := u
      try dsimp only at hw_65
      obtain ⟨hw_65, hpx_66⟩ := hw_65
      obtain ⟨hP2, hD2⟩ := va_join (wr := [(a0, .inr (0, [.int (nI n), .int may, .ref a1, .ref a2, .ref a3])), (a1, .inl (b1, 10, .inl hd)), (a2, .inl (b2, 10, .inl fi)), (a3, .inl (b3, 10, .inl un))]) (w1 := (wT t0 t1 ct by_ (nI len) (nI plv_61) tkv_62 tpv_63)) hP hD [0, 1] [2, 3, 4, 5] rfl rfl (by decide) (by decide) hk1 hFc hP1 hD1
      have hP := hP2.sub (ws' := (wTB t0 t1 ct a0 a1 a2 a3 b1 b2 b3 by_ (nI len) (nI plv_61) tkv_62 tpv_63 (nI n) may hd fi un)) [4, 5, 0, 1, 2, 3] rfl
      have hD := hD2.sub (ws' := (wTB t0 t1 ct a0 a1 a2 a3 b1 b2 b3 by_ (nI len) (nI plv_61) tkv_62 tpv_63 (nI n) may hd fi un)) [4, 5, 0, 1, 2, 3] (by decide) rfl
      clear hP1 hD1 hFc hk1
      generalize H1 = H at hP hS ⊢
      refine lv_istore (lv' := [(5, .int rv_64), (0, .ref t0), (1, .ref a0), (3, .int nh), (4, .int ni)]) hx hb dX1_readRule_110 hl (by decide) rfl (fun ls hl => ?_)
      refine lv_iload hx hb dX1_readRule_112 (lv_at hl 0 rfl) ?_
      refine lv_if_ne (tgt := 119) hx hb dX1_readRule_114 (by decide) (fun c_114_67 => ?_) (fun c_114_67 => ?_)
      · exact cut119 nh ni rv_64 plv_61 tkv_62 tpv_63 (hq93.trans (show j_X1_readRule_93 by_ len n hd fi un nh ni nu q1 tk1 tp1 = j_X1_readRule_119 by_ len n hd fi un nh ni rv_64 plv_61 tkv_62 tpv_63 from by (unfold j_X1_readRule_93; (try dsimp only); (try rw [if_pos c_99_54]); (try rw [← hw_59]); (try dsimp only); (try rw [← hw_65]); (try dsimp only); (try rw [if_neg c_114_67]); first | done | rfl))) (by first | assumption | omega) _ _ hP hD hS _ (lv_sub hl [1, 2, 3, 4, 0] rfl)
      · refine lv_iconst (v := 0) hx hb dX1_readRule_117 (by decide) ?_
        exact rw_zret hx hb hr hS hlocks (plv_61, tkv_62, tpv_63, n, hd, fi, un) ⟨(hq93.trans (show j_X1_readRule_93 by_ len n hd fi un nh ni nu q1 tk1 tp1 = (0, plv_61, tkv_62, tpv_63, n, hd, fi, un) from by (unfold j_X1_readRule_93; (try dsimp only); (try rw [if_pos c_99_54]); (try rw [← hw_59]); (try dsimp only); (try rw [← hw_65]); (try dsimp only); (try rw [if_pos c_114_67]); first | done | rfl))).symm, (by first | assumption | omega | rfl | exact Or.inl rfl | exact Or.inr (by omega) | (dsimp only; omega) | (dsimp only; intro h; omega) | (intro h; rcases h with h | h <;> contradiction)), (by first | assumption | omega | rfl | exact Or.inl rfl | exact Or.inr (by omega) | (dsimp only; omega) | (dsimp only; intro h; omega) | (intro h; rcases h with h | h <;> contradiction))⟩ hP hD (by decide +kernel) dX1_readRule_118
  have cut57 : ∀ (nh : Int32), s_X1_readRule by_ len q tk tp n hd fi un = j_X1_readRule_57 by_ len q n hd fi un nh → ∀ (H : Heap) (locs : List Loc), va_P D vwCl (wTB t0 t1 ct a0 a1 a2 a3 b1 b2 b3 by_ (nI len) (nI q) tk tp (nI n) may hd fi un) H → va_D A (wTB t0 t1 ct a0 a1 a2 a3 b1 b2 b3 by_ (nI len) (nI q) tk tp (nI n) may hd fi un) → va_S A s.heap H locs → ∀ ls : Array Slot, lv_has ls 7 [(0, .ref t0), (1, .ref a0), (3, .int nh)] → W p l e (headSpec wsX1_readRule ({ frames := 4, cells := 0, slots := 0, locals := 85 })).room s m ([.ref t0, .ref a0] : List Value).toArray below meth c H locs 0 0 (MQ below (va_Qi (fun (r : Int32) (u : Nat × Int32 × Int32 × Nat × (Nat → Int32) × (Nat → Int32) × (Nat → Int32)) => (r, u.1, u.2.1, u.2.2.1, u.2.2.2.1, u.2.2.2.2.1, u.2.2.2.2.2.1, u.2.2.2.2.2.2) = s_X1_readRule by_ len q tk tp n hd fi un ∧ (u.1 ≤ len) ∧ (u.2.2.2.1 ≤ 10)) (rwB D (fun u : Nat × Int32 × Int32 × Nat × (Nat → Int32) × (Nat → Int32) × (Nat → Int32) => (wTB t0 t1 ct a0 a1 a2 a3 b1 b2 b3 by_ (nI len) (nI u.1) u.2.1 u.2.2.1 (nI u.2.2.2.1) may u.2.2.2.2.1 u.2.2.2.2.2.1 u.2.2.2.2.2.2)) A) A) ([.ref t0, .ref a0] : List Value).toArray s 0 0 A) (F0 m 57 ls []) := by
    intro nh hq57  H locs hP hD hS ls hl
    refine lv_iconst (v := 0) hx hb dX1_readRule_57 (by decide) ?_
    refine lv_istore (lv' := [(4, .int 0), (0, .ref t0), (1, .ref a0), (3, .int nh)]) hx hb dX1_readRule_58 hl (by decide) rfl (fun ls hl => ?_)
    refine lv_iconst (v := 0) hx hb dX1_readRule_60 (by decide) ?_
    refine lv_istore (lv' := [(5, .int 0), (4, .int 0), (0, .ref t0), (1, .ref a0), (3, .int nh)]) hx hb dX1_readRule_61 hl (by decide) rfl (fun ls hl => ?_)
    refine lv_aload_n hx hb dX1_readRule_63 rfl (lv_at hl 2 rfl) ?_
    have hPc := hP.sub (ws' := (wT t0 t1 ct by_ (nI len) (nI q) tk tp)) [0, 1] rfl
    have hDc := hD.sub (ws' := (wT t0 t1 ct by_ (nI len) (nI q) tk tp)) [0, 1] (by decide) rfl
    have hKc := hK.sub (tys' := (tT t0 t1 ct)) [0] rfl
    have hFc := va_free (wc := (wT t0 t1 ct by_ (nI len) (nI q) tk tp)) hD hS hA [0, 1] rfl
    refine rw_v (D := D) (wc := (wT t0 t1 ct by_ (nI len) (nI q) tk tp)) (va_runV (As := []) (rest := []) ⟨hx, hb, hml, hown, hts⟩ (c_X1_advance l D t0 t1 ct len q by_ tk tp (by first | assumption | omega) (by first | assumption | omega) _) (cwV 0 hts gX1_readRule_X1_advance rfl rfl rfl (by decide +kernel) ⟨Nat.le_of_ble_eq_true rfl, Nat.le_of_ble_eq_true rfl⟩) ⟨cPre.blind, va_recv hKc hPc (ci := 1) (q0 := 0) rfl rfl, cPre.mk hPc hKc hDc hN⟩ rfl rfl hl.1 rfl (lv_room (Nat.le_of_ble_eq_true rfl)) dX1_readRule_64 ⟨Nat.zero_le _, Nat.zero_le _⟩) hS hFc (fun u H1 locs hw_72 hP1 hD1 hk1 hS => ?_)
    obtain ⟨plv_68, tkv_69, tpv_70⟩ := u
    try dsimp only at hw_72
    obtain ⟨hw_72, hpx_73⟩ := hw_72
    obtain ⟨hP2, hD2⟩ := va_join (wr := [(a0, .inr (0, [.int (nI n), .int may, .ref a1, .ref a2, .ref a3])), (a1, .inl (b1, 10, .inl hd)), (a2, .inl (b2, 10, .inl fi)), (a3, .inl (b3, 10, .inl un))]) (w1 := (wT t0 t1 ct by_ (nI len) (nI plv_68) tkv_69 tpv_70)) hP hD [0, 1] [2, 3, 4, 5] rfl rfl (by decide) (by decide) hk1 hFc hP1 hD1
    have hP := hP2.sub (ws' := (wTB t0 t1 ct a0 a1 a2 a3 b1 b2 b3 by_ (nI len) (nI plv_68) tkv_69 tpv_70 (nI n) may hd fi un)) [4, 5, 0, 1, 2, 3] rfl
    have hD := hD2.sub (ws' := (wTB t0 t1 ct a0 a1 a2 a3 b1 b2 b3 by_ (nI len) (nI plv_68) tkv_69 tpv_70 (nI n) may hd fi un)) [4, 5, 0, 1, 2, 3] (by decide) rfl
    clear hP1 hD1 hFc hk1
    generalize H1 = H at hP hS ⊢
    refine lv_aload_n hx hb dX1_readRule_67 rfl (lv_at hl 2 rfl) ?_
    refine va_get (D := D) (ci := 1) (v := .int tkv_69) (C := RX1) (T := TX1) (N := 5) hx hb hts hinX1 hown hK hP 0 rfl rfl 3 (by decide) (hts (.fieldLink RX1 30 "HoldUnless$Text" "token" "I") (by decide +kernel)) (fun _ h9 => h9) rfl dX1_readRule_68 ?_
    refine lv_bipush (v := 8) hx hb dX1_readRule_71 (by decide) ?_
    refine lv_icmp_ne (tgt := 93) hx hb dX1_readRule_73 (by decide) (fun c_73_74 => ?_) (fun c_73_74 => ?_)
    · exact cut93 nh 0 0 plv_68 tkv_69 tpv_70 (hq57.trans (show j_X1_readRule_57 by_ len q n hd fi un nh = j_X1_readRule_93 by_ len n hd fi un nh 0 0 plv_68 tkv_69 tpv_70 from by (unfold j_X1_readRule_57; (try dsimp only); (try rw [← hw_72]); (try dsimp only); (try rw [if_neg c_73_74]); first | done | rfl))) (by first | assumption | omega) _ _ hP hD hS _ (lv_sub hl [2, 3, 4, 1, 0] rfl)
    · refine lv_aload_n hx hb dX1_readRule_76 rfl (lv_at hl 2 rfl) ?_
      have hPc := hP.sub (ws' := (wT t0 t1 ct by_ (nI len) (nI plv_68) tkv_69 tpv_70)) [0, 1] rfl
      have hDc := hD.sub (ws' := (wT t0 t1 ct by_ (nI len) (nI plv_68) tkv_69 tpv_70)) [0, 1] (by decide) rfl
      have hKc := hK.sub (tys' := (tT t0 t1 ct)) [0] rfl
      have hFc := va_free (wc := (wT t0 t1 ct by_ (nI len) (nI plv_68) tkv_69 tpv_70)) hD hS hA [0, 1] rfl
      refine rw_v (D := D) (wc := (wT t0 t1 ct by_ (nI len) (nI plv_68) tkv_69 tpv_70)) (va_runV (As := []) (rest := []) ⟨hx, hb, hml, hown, hts⟩ (c_X1_advance l D t0 t1 ct len plv_68 by_ tkv_69 tpv_70 (by first | assumption | omega) (by first | assumption | omega) _) (cwV 0 hts gX1_readRule_X1_advance rfl rfl rfl (by decide +kernel) ⟨Nat.le_of_ble_eq_true rfl, Nat.le_of_ble_eq_true rfl⟩) ⟨cPre.blind, va_recv hKc hPc (ci := 1) (q0 := 0) rfl rfl, cPre.mk hPc hKc hDc hN⟩ rfl rfl hl.1 rfl (lv_room (Nat.le_of_ble_eq_true rfl)) dX1_readRule_77 ⟨Nat.zero_le _, Nat.zero_le _⟩) hS hFc (fun u H1 locs hw_79 hP1 hD1 hk1 hS => ?_)
      obtain ⟨plv_75, tkv_76, tpv_77⟩ := u
      try dsimp only at hw_79
      obtain ⟨hw_79, hpx_80⟩ := hw_79
      obtain ⟨hP2, hD2⟩ := va_join (wr := [(a0, .inr (0, [.int (nI n), .int may, .ref a1, .ref a2, .ref a3])), (a1, .inl (b1, 10, .inl hd)), (a2, .inl (b2, 10, .inl fi)), (a3, .inl (b3, 10, .inl un))]) (w1 := (wT t0 t1 ct by_ (nI len) (nI plv_75) tkv_76 tpv_77)) hP hD [0, 1] [2, 3, 4, 5] rfl rfl (by decide) (by decide) hk1 hFc hP1 hD1
      have hP := hP2.sub (ws' := (wTB t0 t1 ct a0 a1 a2 a3 b1 b2 b3 by_ (nI len) (nI plv_75) tkv_76 tpv_77 (nI n) may hd fi un)) [4, 5, 0, 1, 2, 3] rfl
      have hD := hD2.sub (ws' := (wTB t0 t1 ct a0 a1 a2 a3 b1 b2 b3 by_ (nI len) (nI plv_75) tkv_76 tpv_77 (nI n) may hd fi un)) [4, 5, 0, 1, 2, 3] (by decide) rfl
      clear hP1 hD1 hFc hk1
      generalize H1 = H at hP hS ⊢
      refine lv_aload_n hx hb dX1_readRule_80 rfl (lv_at hl 2 rfl) ?_
      have hPc := hP.sub (ws' := (wT t0 t1 ct by_ (nI len) (nI plv_75) tkv_76 tpv_77)) [0, 1] rfl
      have hDc := hD.sub (ws' := (wT t0 t1 ct by_ (nI len) (nI plv_75) tkv_76 tpv_77)) [0, 1] (by decide) rfl
      have hKc := hK.sub (tys' := (tT t0 t1 ct)) [0] rfl
      have hFc := va_free (wc := (wT t0 t1 ct by_ (nI len) (nI plv_75) tkv_76 tpv_77)) hD hS hA [0, 1] rfl
      refine rw_i (D := D) (wc := (wT t0 t1 ct by_ (nI len) (nI plv_75) tkv_76 tpv_77)) (va_runV (As := []) (rest := []) ⟨hx, hb, hml, hown, hts⟩ (c_X1_readSentences l D t0 t1 ct len plv_75 by_ tkv_76 tpv_77 (by first | assumption | omega) (by first | assumption | omega) _) (cwV 0 hts gX1_readRule_X1_readSentences rfl rfl rfl (by decide +kernel) ⟨Nat.le_of_ble_eq_true rfl, Nat.le_of_ble_eq_true rfl⟩) ⟨cPre.blind, va_recv hKc hPc (ci := 1) (q0 := 0) rfl rfl, cPre.mk hPc hKc hDc hN⟩ rfl rfl hl.1 rfl (lv_room (Nat.le_of_ble_eq_true rfl)) dX1_readRule_81 ⟨Nat.zero_le _, Nat.zero_le _⟩) hS hFc (fun rv_84 u H1 locs hw_85 hP1 hD1 hk1 hS => ?_)
      obtain ⟨plv_81, tkv_82, tpv_83⟩ := u
      try dsimp only at hw_85
      obtain ⟨hw_85, hpx_86⟩ := hw_85
      obtain ⟨hP2, hD2⟩ := va_join (wr := [(a0, .inr (0, [.int (nI n), .int may, .ref a1, .ref a2, .ref a3])), (a1, .inl (b1, 10, .inl hd)), (a2, .inl (b2, 10, .inl fi)), (a3, .inl (b3, 10, .inl un))]) (w1 := (wT t0 t1 ct by_ (nI len) (nI plv_81) tkv_82 tpv_83)) hP hD [0, 1] [2, 3, 4, 5] rfl rfl (by decide) (by decide) hk1 hFc hP1 hD1
      have hP := hP2.sub (ws' := (wTB t0 t1 ct a0 a1 a2 a3 b1 b2 b3 by_ (nI len) (nI plv_81) tkv_82 tpv_83 (nI n) may hd fi un)) [4, 5, 0, 1, 2, 3] rfl
      have hD := hD2.sub (ws' := (wTB t0 t1 ct a0 a1 a2 a3 b1 b2 b3 by_ (nI len) (nI plv_81) tkv_82 tpv_83 (nI n) may hd fi un)) [4, 5, 0, 1, 2, 3] (by decide) rfl
      clear hP1 hD1 hFc hk1
      generalize H1 = H at hP hS ⊢
      refine lv_istore (lv' := [(4, .int rv_84), (5, .int 0), (0, .ref t0), (1, .ref a0), (3, .int nh)]) hx hb dX1_readRule_84 hl (by decide) rfl (fun ls hl => ?_)
      refine lv_iload hx hb dX1_readRule_86 (lv_at hl 0 rfl) ?_
      refine lv_if_ne (tgt := 93) hx hb dX1_readRule_88 (by decide) (fun c_88_87 => ?_) (fun c_88_87 => ?_)
      · exact cut93 nh rv_84 0 plv_81 tkv_82 tpv_83 (hq57.trans (show j_X1_readRule_57 by_ len q n hd fi un nh = j_X1_readRule_93 by_ len n hd fi un nh rv_84 0 plv_81 tkv_82 tpv_83 from by (unfold j_X1_readRule_57; (try dsimp only); (try rw [← hw_72]); (try dsimp only); (try rw [if_pos c_73_74]); (try rw [← hw_79]); (try dsimp only); (try rw [← hw_85]); (try dsimp only); (try rw [if_neg c_88_87]); first | done | rfl))) (by first | assumption | omega) _ _ hP hD hS _ (lv_sub hl [2, 3, 4, 0, 1] rfl)
      · refine lv_iconst (v := 0) hx hb dX1_readRule_91 (by decide) ?_
        exact rw_zret hx hb hr hS hlocks (plv_81, tkv_82, tpv_83, n, hd, fi, un) ⟨(hq57.trans (show j_X1_readRule_57 by_ len q n hd fi un nh = (0, plv_81, tkv_82, tpv_83, n, hd, fi, un) from by (unfold j_X1_readRule_57; (try dsimp only); (try rw [← hw_72]); (try dsimp only); (try rw [if_pos c_73_74]); (try rw [← hw_79]); (try dsimp only); (try rw [← hw_85]); (try dsimp only); (try rw [if_pos c_88_87]); first | done | rfl))).symm, (by first | assumption | omega | rfl | exact Or.inl rfl | exact Or.inr (by omega) | (dsimp only; omega) | (dsimp only; intro h; omega) | (intro h; rcases h with h | h <;> contradiction)), (by first | assumption | omega | rfl | exact Or.inl rfl | exact Or.inr (by omega) | (dsimp only; omega) | (dsimp only; intro h; omega) | (intro h; rcases h with h | h <;> contradiction))⟩ hP hD (by decide +kernel) dX1_readRule_92
  refine lv_aload_n hx hb dX1_readRule_0 rfl (lv_at hl 0 rfl) ?_
  refine va_get (D := D) (ci := 1) (v := .int tk) (C := RX1) (T := TX1) (N := 5) hx hb hts hinX1 hown hK hP 0 rfl rfl 3 (by decide) (hts (.fieldLink RX1 30 "HoldUnless$Text" "token" "I") (by decide +kernel)) (fun _ h9 => h9) rfl dX1_readRule_1 ?_
  refine lv_bipush (v := 10) hx hb dX1_readRule_4 (by decide) ?_
  refine lv_icmp_eq (tgt := 19) hx hb dX1_readRule_6 (by decide) (fun c_6_88 => ?_) (fun c_6_88 => ?_)
  · refine lv_iconst (v := 1) hx hb dX1_readRule_19 (by decide) ?_
    refine lv_goto (tgt := 24) hx hb dX1_readRule_20 (by decide) ?_
    refine lv_istore_n (lv' := [(2, .int 1), (0, .ref t0), (1, .ref a0)]) hx hb dX1_readRule_24 rfl hl (by decide) rfl (fun ls hl => ?_)
    refine lv_iload_n hx hb dX1_readRule_25 rfl (lv_at hl 0 rfl) ?_
    refine lv_if_eq (tgt := 36) hx hb dX1_readRule_26 (by decide) (fun hh_90 => absurd hh_90 (by decide)) (fun _ => ?_)
    refine lv_aload_n hx hb dX1_readRule_29 rfl (lv_at hl 2 rfl) ?_
    have hPc := hP.sub (ws' := (wB a0 a1 a2 a3 b1 b2 b3 (nI n) may hd fi un)) [2, 3, 4, 5] rfl
    have hDc := hD.sub (ws' := (wB a0 a1 a2 a3 b1 b2 b3 (nI n) may hd fi un)) [2, 3, 4, 5] (by decide) rfl
    have hKc := hK.sub (tys' := (tB a0 a1 a2 a3 b1 b2 b3)) [1, 2, 3] rfl
    refine ro_i (D := D) (va_runVN (As := []) (rest := []) ⟨hx, hb, hml, hown, hts⟩ (c_X0_hasRoom l D a0 a1 a2 a3 b1 b2 b3 n may hd fi un (by first | assumption | omega) _) ⟨(va_cnB 0 hts gX1_readRule_X0_hasRoom_n51 rfl rfl rfl (hN.nw 6 rfl) (hts (.initialized RX0) (by decide +kernel)) (by decide +kernel) ⟨Nat.le_of_ble_eq_true rfl, Nat.le_of_ble_eq_true rfl⟩), hts (.instanceMethod yX0_hasRoom) (by decide +kernel), hts (.selects RX0 yX0_hasRoom yX0_hasRoom) (by decide +kernel)⟩ ⟨cPre.blind, va_recv hKc hPc (ci := 0) (q0 := 0) rfl rfl, cPre.mk hPc hKc hDc hN⟩ rfl rfl hl.1 rfl (lv_room (Nat.le_of_ble_eq_true rfl)) dX1_readRule_30 ⟨Nat.zero_le _, Nat.zero_le _⟩) hS hA (fun H locs hkp0 hS => ?_)
    replace hP := hkp0 _ hP
    refine lv_if_ne (tgt := 38) hx hb dX1_readRule_33 (by decide) (fun c_33_91 => ?_) (fun c_33_91 => ?_)
    · refine lv_aload_n hx hb dX1_readRule_38 rfl (lv_at hl 1 rfl) ?_
      refine va_get (D := D) (ci := 1) (v := .int tk) (C := RX1) (T := TX1) (N := 5) hx hb hts hinX1 hown hK hP 0 rfl rfl 3 (by decide) (hts (.fieldLink RX1 30 "HoldUnless$Text" "token" "I") (by decide +kernel)) (fun _ h9 => h9) rfl dX1_readRule_39 ?_
      refine lv_bipush (v := 10) hx hb dX1_readRule_42 (by decide) ?_
      refine lv_icmp_ne (tgt := 52) hx hb dX1_readRule_44 (by decide) (fun hh_93 => absurd c_6_88 hh_93) (fun _ => ?_)
      refine lv_bipush (v := 8) hx hb dX1_readRule_47 (by decide) ?_
      refine lv_goto (tgt := 56) hx hb dX1_readRule_49 (by decide) ?_
      refine lv_istore_n (lv' := [(3, .int 8), (2, .int 1), (0, .ref t0), (1, .ref a0)]) hx hb dX1_readRule_56 rfl hl (by decide) rfl (fun ls hl => ?_)
      exact cut57 8 (show s_X1_readRule by_ len q tk tp n hd fi un = j_X1_readRule_57 by_ len q n hd fi un 8 from by (unfold s_X1_readRule; (try dsimp only); (try rw [if_pos c_6_88]); (try rw [if_neg c_33_91]); first | done | rfl))  _ _ hP hD hS _ (lv_sub hl [2, 3, 0] rfl)
    · refine lv_iconst (v := 0) hx hb dX1_readRule_36 (by decide) ?_
      exact rw_zret hx hb hr hS hlocks (q, tk, tp, n, hd, fi, un) ⟨(show s_X1_readRule by_ len q tk tp n hd fi un = (0, q, tk, tp, n, hd, fi, un) from by (unfold s_X1_readRule; (try dsimp only); (try rw [if_pos c_6_88]); (try rw [if_pos c_33_91]); first | done | rfl)).symm, (by first | assumption | omega | rfl | exact Or.inl rfl | exact Or.inr (by omega) | (dsimp only; omega) | (dsimp only; intro h; omega) | (intro h; rcases h with h | h <;> contradiction)), (by first | assumption | omega | rfl | exact Or.inl rfl | exact Or.inr (by omega) | (dsimp only; omega) | (dsimp only; intro h; omega) | (intro h; rcases h with h | h <;> contradiction))⟩ hP hD (by decide +kernel) dX1_readRule_37
  · refine lv_aload_n hx hb dX1_readRule_9 rfl (lv_at hl 0 rfl) ?_
    refine va_get (D := D) (ci := 1) (v := .int tk) (C := RX1) (T := TX1) (N := 5) hx hb hts hinX1 hown hK hP 0 rfl rfl 3 (by decide) (hts (.fieldLink RX1 30 "HoldUnless$Text" "token" "I") (by decide +kernel)) (fun _ h9 => h9) rfl dX1_readRule_10 ?_
    refine ro_i (D := D) (va_runSN (As := [.int tk]) (rest := []) ⟨hx, hb, hml, hown, hts⟩ (c_X2_isSentence l D tk  _) ⟨(va_cnB 1 hts gX1_readRule_X2_isSentence_n47 rfl rfl rfl (hN.nw 5 rfl) (hts (.initialized RX2) (by decide +kernel)) (by decide +kernel) ⟨Nat.le_of_ble_eq_true rfl, Nat.le_of_ble_eq_true rfl⟩), hts (.static yX2_isSentence) (by decide +kernel), trivial⟩ ⟨cPre.blind, cPre.mk vP0 hKe vD0 hN⟩ rfl rfl hl.1 rfl (lv_room (Nat.le_of_ble_eq_true rfl)) dX1_readRule_13 ⟨Nat.zero_le _, Nat.zero_le _⟩) hS hA (fun H locs hkp0 hS => ?_)
    replace hP := hkp0 _ hP
    refine lv_if_eq (tgt := 23) hx hb dX1_readRule_16 (by decide) (fun c_16_94 => ?_) (fun c_16_94 => ?_)
    · refine lv_iconst (v := 0) hx hb dX1_readRule_23 (by decide) ?_
      refine lv_istore_n (lv' := [(2, .int 0), (0, .ref t0), (1, .ref a0)]) hx hb dX1_readRule_24 rfl hl (by decide) rfl (fun ls hl => ?_)
      refine lv_iload_n hx hb dX1_readRule_25 rfl (lv_at hl 0 rfl) ?_
      refine lv_if_eq (tgt := 36) hx hb dX1_readRule_26 (by decide) (fun _ => ?_) (fun hh_96 => absurd (by decide) hh_96)
      refine lv_iconst (v := 0) hx hb dX1_readRule_36 (by decide) ?_
      exact rw_zret hx hb hr hS hlocks (q, tk, tp, n, hd, fi, un) ⟨(show s_X1_readRule by_ len q tk tp n hd fi un = (0, q, tk, tp, n, hd, fi, un) from by (unfold s_X1_readRule; (try dsimp only); (try rw [if_neg c_6_88]); (try rw [if_pos c_16_94]); first | done | rfl)).symm, (by first | assumption | omega | rfl | exact Or.inl rfl | exact Or.inr (by omega) | (dsimp only; omega) | (dsimp only; intro h; omega) | (intro h; rcases h with h | h <;> contradiction)), (by first | assumption | omega | rfl | exact Or.inl rfl | exact Or.inr (by omega) | (dsimp only; omega) | (dsimp only; intro h; omega) | (intro h; rcases h with h | h <;> contradiction))⟩ hP hD (by decide +kernel) dX1_readRule_37
    · refine lv_iconst (v := 1) hx hb dX1_readRule_19 (by decide) ?_
      refine lv_goto (tgt := 24) hx hb dX1_readRule_20 (by decide) ?_
      refine lv_istore_n (lv' := [(2, .int 1), (0, .ref t0), (1, .ref a0)]) hx hb dX1_readRule_24 rfl hl (by decide) rfl (fun ls hl => ?_)
      refine lv_iload_n hx hb dX1_readRule_25 rfl (lv_at hl 0 rfl) ?_
      refine lv_if_eq (tgt := 36) hx hb dX1_readRule_26 (by decide) (fun hh_98 => absurd hh_98 (by decide)) (fun _ => ?_)
      refine lv_aload_n hx hb dX1_readRule_29 rfl (lv_at hl 2 rfl) ?_
      have hPc := hP.sub (ws' := (wB a0 a1 a2 a3 b1 b2 b3 (nI n) may hd fi un)) [2, 3, 4, 5] rfl
      have hDc := hD.sub (ws' := (wB a0 a1 a2 a3 b1 b2 b3 (nI n) may hd fi un)) [2, 3, 4, 5] (by decide) rfl
      have hKc := hK.sub (tys' := (tB a0 a1 a2 a3 b1 b2 b3)) [1, 2, 3] rfl
      refine ro_i (D := D) (va_runVN (As := []) (rest := []) ⟨hx, hb, hml, hown, hts⟩ (c_X0_hasRoom l D a0 a1 a2 a3 b1 b2 b3 n may hd fi un (by first | assumption | omega) _) ⟨(va_cnB 0 hts gX1_readRule_X0_hasRoom_n51 rfl rfl rfl (hN.nw 6 rfl) (hts (.initialized RX0) (by decide +kernel)) (by decide +kernel) ⟨Nat.le_of_ble_eq_true rfl, Nat.le_of_ble_eq_true rfl⟩), hts (.instanceMethod yX0_hasRoom) (by decide +kernel), hts (.selects RX0 yX0_hasRoom yX0_hasRoom) (by decide +kernel)⟩ ⟨cPre.blind, va_recv hKc hPc (ci := 0) (q0 := 0) rfl rfl, cPre.mk hPc hKc hDc hN⟩ rfl rfl hl.1 rfl (lv_room (Nat.le_of_ble_eq_true rfl)) dX1_readRule_30 ⟨Nat.zero_le _, Nat.zero_le _⟩) hS hA (fun H locs hkp0 hS => ?_)
      replace hP := hkp0 _ hP
      refine lv_if_ne (tgt := 38) hx hb dX1_readRule_33 (by decide) (fun c_33_99 => ?_) (fun c_33_99 => ?_)
      · refine lv_aload_n hx hb dX1_readRule_38 rfl (lv_at hl 1 rfl) ?_
        refine va_get (D := D) (ci := 1) (v := .int tk) (C := RX1) (T := TX1) (N := 5) hx hb hts hinX1 hown hK hP 0 rfl rfl 3 (by decide) (hts (.fieldLink RX1 30 "HoldUnless$Text" "token" "I") (by decide +kernel)) (fun _ h9 => h9) rfl dX1_readRule_39 ?_
        refine lv_bipush (v := 10) hx hb dX1_readRule_42 (by decide) ?_
        refine lv_icmp_ne (tgt := 52) hx hb dX1_readRule_44 (by decide) (fun _ => ?_) (fun hh_101 => absurd hh_101 c_6_88)
        refine lv_aload_n hx hb dX1_readRule_52 rfl (lv_at hl 1 rfl) ?_
        refine va_get (D := D) (ci := 1) (v := .int tk) (C := RX1) (T := TX1) (N := 5) hx hb hts hinX1 hown hK hP 0 rfl rfl 3 (by decide) (hts (.fieldLink RX1 30 "HoldUnless$Text" "token" "I") (by decide +kernel)) (fun _ h9 => h9) rfl dX1_readRule_53 ?_
        refine lv_istore_n (lv' := [(3, .int tk), (2, .int 1), (0, .ref t0), (1, .ref a0)]) hx hb dX1_readRule_56 rfl hl (by decide) rfl (fun ls hl => ?_)
        exact cut57 tk (show s_X1_readRule by_ len q tk tp n hd fi un = j_X1_readRule_57 by_ len q n hd fi un tk from by (unfold s_X1_readRule; (try dsimp only); (try rw [if_neg c_6_88]); (try rw [if_neg c_16_94]); (try rw [if_neg c_33_99]); first | done | rfl))  _ _ hP hD hS _ (lv_sub hl [2, 3, 0] rfl)
      · refine lv_iconst (v := 0) hx hb dX1_readRule_36 (by decide) ?_
        exact rw_zret hx hb hr hS hlocks (q, tk, tp, n, hd, fi, un) ⟨(show s_X1_readRule by_ len q tk tp n hd fi un = (0, q, tk, tp, n, hd, fi, un) from by (unfold s_X1_readRule; (try dsimp only); (try rw [if_neg c_6_88]); (try rw [if_neg c_16_94]); (try rw [if_pos c_33_99]); first | done | rfl)).symm, (by first | assumption | omega | rfl | exact Or.inl rfl | exact Or.inr (by omega) | (dsimp only; omega) | (dsimp only; intro h; omega) | (intro h; rcases h with h | h <;> contradiction)), (by first | assumption | omega | rfl | exact Or.inl rfl | exact Or.inr (by omega) | (dsimp only; omega) | (dsimp only; intro h; omega) | (intro h; rcases h with h | h <;> contradiction))⟩ hP hD (by decide +kernel) dX1_readRule_37

def f_X1_readInto_15 (by_ : Nat → Int32) (len : Nat) (j15 : Nat) (st : Nat × Int32 × Int32 × Nat × Int32 × (Nat → Int32) × (Nat → Int32) × (Nat → Int32)) : (Int32 × Nat × Int32 × Int32 × Nat × Int32 × (Nat → Int32) × (Nat → Int32) × (Nat → Int32)) ⊕ (Nat × Int32 × Int32 × Nat × Int32 × (Nat → Int32) × (Nat → Int32) × (Nat → Int32)) := match st with | (q5, tk5, tp5, n5, may5, hd5, fi5, un5) => (if tk5 = 13 then (.inl (nI j15, q5, tk5, tp5, n5, may5, hd5, fi5, un5)) else (if tk5 = 11 then (match s_X1_readMay by_ len q5 may5 with | (rv_40, plv_36, tkv_37, tpv_38, mayv_39) => (if rv_40 = 0 then (.inl ((-9), plv_36, tkv_37, tpv_38, n5, mayv_39, hd5, fi5, un5)) else (.inr (plv_36, tkv_37, tpv_38, n5, mayv_39, hd5, fi5, un5)))) else (match s_X1_readRule by_ len q5 tk5 tp5 n5 hd5 fi5 un5 with | (rv_29, plv_22, tkv_23, tpv_24, szv_25, hdv_26, fiv_27, unv_28) => (if rv_29 = 0 then (.inl ((-9), plv_22, tkv_23, tpv_24, szv_25, may5, hdv_26, fiv_27, unv_28)) else (.inr (plv_22, tkv_23, tpv_24, szv_25, may5, hdv_26, fiv_27, unv_28))))))
def s_X1_readInto (by_ : Nat → Int32) (len : Nat) (hd : Nat → Int32) (fi : Nat → Int32) (un : Nat → Int32) : Int32 × Nat × Int32 × Int32 × Nat × Int32 × (Nat → Int32) × (Nat → Int32) × (Nat → Int32) := (match s_X0_forgetAll  with | (szv_1, mayv_2) => (match s_X1_advance by_ len 0 with | (plv_6, tkv_7, tpv_8) => (onE (itE (f_X1_readInto_15 by_ len) (plv_6, tkv_7, tpv_8, szv_1, mayv_2, hd, fi, un) 300) (fun st => match st with | (q5, tk5, tp5, n5, may5, hd5, fi5, un5) => (if tk5 = 13 then (nI 300, q5, tk5, tp5, n5, may5, hd5, fi5, un5) else (nI 300, q5, tk5, tp5, n5, may5, hd5, fi5, un5))))))
set_option maxHeartbeats 4000000 in
set_option maxRecDepth 100000 in
theorem c_X1_readInto (l : Launch) (D : va_G) (t0 : Nat) (t1 : Nat) (ct : ClassId) (a0 : Nat) (a1 : Nat) (a2 : Nat) (a3 : Nat) (b1 : ClassId) (b2 : ClassId) (b3 : ClassId) (len : Nat) (n : Nat) (by_ : Nat → Int32) (pl : Int32) (tk : Int32) (tp : Int32) (may : Int32) (hd : Nat → Int32) (fi : Nat → Int32) (un : Nat → Int32) (hlen : len ≤ 300) (sz : Nat) : Met l yX1_readInto wsX1_readInto ({ frames := 5, cells := 0, slots := 0, locals := 111 }) (va_Pc [.ref t0, .ref a0] (cPre D (tTB t0 t1 ct a0 a1 a2 a3 b1 b2 b3) (wTB t0 t1 ct a0 a1 a2 a3 b1 b2 b3 by_ (nI len) pl tk tp (nI n) may hd fi un) sz)) (va_Qi (fun (r : Int32) (u : Nat × Int32 × Int32 × Nat × Int32 × (Nat → Int32) × (Nat → Int32) × (Nat → Int32)) => (r, u.1, u.2.1, u.2.2.1, u.2.2.2.1, u.2.2.2.2.1, u.2.2.2.2.2.1, u.2.2.2.2.2.2.1, u.2.2.2.2.2.2.2) = s_X1_readInto by_ len hd fi un ∧ (u.1 ≤ len) ∧ (u.2.2.2.1 ≤ 10)) (rwB D (fun u : Nat × Int32 × Int32 × Nat × Int32 × (Nat → Int32) × (Nat → Int32) × (Nat → Int32) => (wTB t0 t1 ct a0 a1 a2 a3 b1 b2 b3 by_ (nI len) (nI u.1) u.2.1 u.2.2.1 (nI u.2.2.2.1) u.2.2.2.2.1 u.2.2.2.2.2.1 u.2.2.2.2.2.2.1 u.2.2.2.2.2.2.2)) (va_A (wTB t0 t1 ct a0 a1 a2 a3 b1 b2 b3 by_ (nI len) pl tk tp (nI n) may hd fi un) sz)) (va_A (wTB t0 t1 ct a0 a1 a2 a3 b1 b2 b3 by_ (nI len) pl tk tp (nI n) may hd fi un) sz)) 0 0 (va_A (wTB t0 t1 ct a0 a1 a2 a3 b1 b2 b3 by_ (nI len) pl tk tp (nI n) may hd fi un) sz) := by
  refine Met.ofW (cc := cX1_readInto) (maxL := 4) (ret := (some .int)) (by decide) rfl ?_
  intro p e s m args below meth c s₁ B hml hv
  obtain ⟨rfl, hsz, hP, hK, hD, hN⟩ := hv
  have hx := B.exec
  have hb := B.bytes
  have hr := B.returns
  have hts := atoms_spec (ws := wsX1_readInto) B.pre
  have hown : s.vm.findClass RX1 = some m.cls := findClass_of_methodNamed B.named
  have hlocks := B.notSynchronized
  have hinX1 : ∀ w ∈ wsX10, w ∈ wsX1_readInto := fun w h => List.mem_cons_of_mem _ (List.mem_append_left _ (List.mem_append_right _ h))
  subst hsz
  replace hD := hD.self (sz := s.heap.size)
  generalize hAe : va_A (wTB t0 t1 ct a0 a1 a2 a3 b1 b2 b3 by_ (nI len) pl tk tp (nI n) may hd fi un) s.heap.size = A at hD ⊢
  have hA : ∀ q : Nat, s.heap.size ≤ q → A q := fun q h => by rw [← hAe]; exact Or.inr h
  have hS : va_S A s.heap s.heap [] := va_S.rf
  have hl := lv_entry ([.ref t0, .ref a0]) (n := 4) (Nat.le_of_ble_eq_true rfl)
  rw [lg_entry_eq]
  generalize (lg_sl ([.ref t0, .ref a0]) ++ List.replicate (4 - (lg_sl ([.ref t0, .ref a0])).length) Slot.unset).toArray = ls at hl ⊢
  replace hl : lv_has ls 4 [(0, .ref t0), (1, .ref a0)] := hl
  have hKe := hK.sub (tys' := []) [] rfl
  refine lv_aload_n hx hb dX1_readInto_0 rfl (lv_at hl 1 rfl) ?_
  have hPc := hP.sub (ws' := (wB a0 a1 a2 a3 b1 b2 b3 (nI n) may hd fi un)) [2, 3, 4, 5] rfl
  have hDc := hD.sub (ws' := (wB a0 a1 a2 a3 b1 b2 b3 (nI n) may hd fi un)) [2, 3, 4, 5] (by decide) rfl
  have hKc := hK.sub (tys' := (tB a0 a1 a2 a3 b1 b2 b3)) [1, 2, 3] rfl
  have hFc := va_free (wc := (wB a0 a1 a2 a3 b1 b2 b3 (nI n) may hd fi un)) hD hS hA [2, 3, 4, 5] rfl
  refine rw_v (D := D) (wc := (wB a0 a1 a2 a3 b1 b2 b3 (nI n) may hd fi un)) (va_runVN (As := []) (rest := []) ⟨hx, hb, hml, hown, hts⟩ (c_X0_forgetAll l D a0 a1 a2 a3 b1 b2 b3 n may hd fi un  _) ⟨(va_cnB 0 hts gX1_readInto_X0_forgetAll_n19 rfl rfl rfl (hN.nw 4 rfl) (hts (.initialized RX0) (by decide +kernel)) (by decide +kernel) ⟨Nat.le_of_ble_eq_true rfl, Nat.le_of_ble_eq_true rfl⟩), hts (.instanceMethod yX0_forgetAll) (by decide +kernel), hts (.selects RX0 yX0_forgetAll yX0_forgetAll) (by decide +kernel)⟩ ⟨cPre.blind, va_recv hKc hPc (ci := 0) (q0 := 0) rfl rfl, cPre.mk hPc hKc hDc hN⟩ rfl rfl hl.1 rfl (lv_room (Nat.le_of_ble_eq_true rfl)) dX1_readInto_1 ⟨Nat.zero_le _, Nat.zero_le _⟩) hS hFc (fun u H1 locs hw_4 hP1 hD1 hk1 hS => ?_)
  obtain ⟨szv_1, mayv_2⟩ := u
  try dsimp only at hw_4
  obtain ⟨hw_4, hpx_5⟩ := hw_4
  obtain ⟨hP2, hD2⟩ := va_join (wr := [(t0, .inr (1, [.ref t1, .int (nI len), .int pl, .int tk, .int tp])), (t1, .inl (ct, 300, .inl by_))]) (w1 := (wB a0 a1 a2 a3 b1 b2 b3 (nI szv_1) mayv_2 hd fi un)) hP hD [2, 3, 4, 5] [0, 1] rfl rfl (by decide) (by decide) hk1 hFc hP1 hD1
  have hP := hP2.sub (ws' := (wTB t0 t1 ct a0 a1 a2 a3 b1 b2 b3 by_ (nI len) pl tk tp (nI szv_1) mayv_2 hd fi un)) [0, 1, 2, 3, 4, 5] rfl
  have hD := hD2.sub (ws' := (wTB t0 t1 ct a0 a1 a2 a3 b1 b2 b3 by_ (nI len) pl tk tp (nI szv_1) mayv_2 hd fi un)) [0, 1, 2, 3, 4, 5] (by decide) rfl
  clear hP1 hD1 hFc hk1
  generalize H1 = H at hP hS ⊢
  refine lv_aload_n hx hb dX1_readInto_4 rfl (lv_at hl 0 rfl) ?_
  refine lv_iconst (v := 0) hx hb dX1_readInto_5 (by decide) ?_
  refine va_put (D := D) (ci := 1) (v := .int 0) (ty := .int) (C := RX1) (T := TX1) (N := 5) hx hb hts hinX1 tyX1 tyX1_ok nmX1 hown hK hP hD hS 0 rfl rfl 2 (by decide) (hts (.fieldLink RX1 24 "HoldUnless$Text" "place" "I") (by decide +kernel)) (fun _ h9 => h9) rfl (by decide +kernel) rfl rfl (Nat.le_of_ble_eq_true rfl) dX1_readInto_6 (fun H locs hP hD hS => ?_)
  replace hP : va_P D vwCl (wTB t0 t1 ct a0 a1 a2 a3 b1 b2 b3 by_ (nI len) 0 tk tp (nI szv_1) mayv_2 hd fi un) H := hP
  replace hD : va_D A (wTB t0 t1 ct a0 a1 a2 a3 b1 b2 b3 by_ (nI len) 0 tk tp (nI szv_1) mayv_2 hd fi un) := hD
  refine lv_aload_n hx hb dX1_readInto_9 rfl (lv_at hl 0 rfl) ?_
  have hPc := hP.sub (ws' := (wT t0 t1 ct by_ (nI len) 0 tk tp)) [0, 1] rfl
  have hDc := hD.sub (ws' := (wT t0 t1 ct by_ (nI len) 0 tk tp)) [0, 1] (by decide) rfl
  have hKc := hK.sub (tys' := (tT t0 t1 ct)) [0] rfl
  have hFc := va_free (wc := (wT t0 t1 ct by_ (nI len) 0 tk tp)) hD hS hA [0, 1] rfl
  refine rw_v (D := D) (wc := (wT t0 t1 ct by_ (nI len) 0 tk tp)) (va_runV (As := []) (rest := []) ⟨hx, hb, hml, hown, hts⟩ (c_X1_advance l D t0 t1 ct len 0 by_ tk tp (by first | assumption | omega) (by first | assumption | omega) _) (cwV 0 hts gX1_readInto_X1_advance rfl rfl rfl (by decide +kernel) ⟨Nat.le_of_ble_eq_true rfl, Nat.le_of_ble_eq_true rfl⟩) ⟨cPre.blind, va_recv hKc hPc (ci := 1) (q0 := 0) rfl rfl, cPre.mk hPc hKc hDc hN⟩ rfl rfl hl.1 rfl (lv_room (Nat.le_of_ble_eq_true rfl)) dX1_readInto_10 ⟨Nat.zero_le _, Nat.zero_le _⟩) hS hFc (fun u H1 locs hw_10 hP1 hD1 hk1 hS => ?_)
  obtain ⟨plv_6, tkv_7, tpv_8⟩ := u
  try dsimp only at hw_10
  obtain ⟨hw_10, hpx_11⟩ := hw_10
  obtain ⟨hP2, hD2⟩ := va_join (wr := [(a0, .inr (0, [.int (nI szv_1), .int mayv_2, .ref a1, .ref a2, .ref a3])), (a1, .inl (b1, 10, .inl hd)), (a2, .inl (b2, 10, .inl fi)), (a3, .inl (b3, 10, .inl un))]) (w1 := (wT t0 t1 ct by_ (nI len) (nI plv_6) tkv_7 tpv_8)) hP hD [0, 1] [2, 3, 4, 5] rfl rfl (by decide) (by decide) hk1 hFc hP1 hD1
  have hP := hP2.sub (ws' := (wTB t0 t1 ct a0 a1 a2 a3 b1 b2 b3 by_ (nI len) (nI plv_6) tkv_7 tpv_8 (nI szv_1) mayv_2 hd fi un)) [4, 5, 0, 1, 2, 3] rfl
  have hD := hD2.sub (ws' := (wTB t0 t1 ct a0 a1 a2 a3 b1 b2 b3 by_ (nI len) (nI plv_6) tkv_7 tpv_8 (nI szv_1) mayv_2 hd fi un)) [4, 5, 0, 1, 2, 3] (by decide) rfl
  clear hP1 hD1 hFc hk1
  generalize H1 = H at hP hS ⊢
  refine lv_iconst (v := 0) hx hb dX1_readInto_13 (by decide) ?_
  refine lv_istore_n (lv' := [(2, .int 0), (0, .ref t0), (1, .ref a0)]) hx hb dX1_readInto_14 rfl hl (by decide) rfl (fun ls hl => ?_)
  have lp15_12 : ∀ (z_12 j15 : Nat), j15 + z_12 = 300 → ∀ (q5 : Nat) (tk5 : Int32) (tp5 : Int32) (n5 : Nat) (may5 : Int32) (hd5 : Nat → Int32) (fi5 : Nat → Int32) (un5 : Nat → Int32), itE (f_X1_readInto_15 by_ len) (plv_6, tkv_7, tpv_8, szv_1, mayv_2, hd, fi, un) j15 = .inr (q5, tk5, tp5, n5, may5, hd5, fi5, un5) → (q5 ≤ len) → (n5 ≤ 10) → ∀  (H : Heap) (locs : List Loc), va_P D vwCl (wTB t0 t1 ct a0 a1 a2 a3 b1 b2 b3 by_ (nI len) (nI q5) tk5 tp5 (nI n5) may5 hd5 fi5 un5) H → va_D A (wTB t0 t1 ct a0 a1 a2 a3 b1 b2 b3 by_ (nI len) (nI q5) tk5 tp5 (nI n5) may5 hd5 fi5 un5) → va_S A s.heap H locs → ∀ ls : Array Slot, lv_has ls 4 [(0, .ref t0), (1, .ref a0), (2, .int (nI j15))] → W p l e (headSpec wsX1_readInto ({ frames := 5, cells := 0, slots := 0, locals := 111 })).room s m ([.ref t0, .ref a0] : List Value).toArray below meth c H locs 0 0 (MQ below (va_Qi (fun (r : Int32) (u : Nat × Int32 × Int32 × Nat × Int32 × (Nat → Int32) × (Nat → Int32) × (Nat → Int32)) => (r, u.1, u.2.1, u.2.2.1, u.2.2.2.1, u.2.2.2.2.1, u.2.2.2.2.2.1, u.2.2.2.2.2.2.1, u.2.2.2.2.2.2.2) = s_X1_readInto by_ len hd fi un ∧ (u.1 ≤ len) ∧ (u.2.2.2.1 ≤ 10)) (rwB D (fun u : Nat × Int32 × Int32 × Nat × Int32 × (Nat → Int32) × (Nat → Int32) × (Nat → Int32) => (wTB t0 t1 ct a0 a1 a2 a3 b1 b2 b3 by_ (nI len) (nI u.1) u.2.1 u.2.2.1 (nI u.2.2.2.1) u.2.2.2.2.1 u.2.2.2.2.2.1 u.2.2.2.2.2.2.1 u.2.2.2.2.2.2.2)) A) A) ([.ref t0, .ref a0] : List Value).toArray s 0 0 A) (F0 m 15 ls []) := by
    intro z_12
    induction z_12 with
    | zero =>
      intro j15 hj15 q5 tk5 tp5 n5 may5 hd5 fi5 un5 he15 hq5 hn5  H locs hP hD hS ls hl
      obtain rfl : 300 = j15 := by omega
      refine lv_aload_n hx hb dX1_readInto_15 rfl (lv_at hl 0 rfl) ?_
      refine va_get (D := D) (ci := 1) (v := .int tk5) (C := RX1) (T := TX1) (N := 5) hx hb hts hinX1 hown hK hP 0 rfl rfl 3 (by decide) (hts (.fieldLink RX1 30 "HoldUnless$Text" "token" "I") (by decide +kernel)) (fun _ h9 => h9) rfl dX1_readInto_16 ?_
      refine lv_bipush (v := 13) hx hb dX1_readInto_19 (by decide) ?_
      refine lv_icmp_eq (tgt := 67) hx hb dX1_readInto_21 (by decide) (fun c_21_13 => ?_) (fun c_21_13 => ?_)
      · refine lv_iload_n hx hb dX1_readInto_67 rfl (lv_at hl 2 rfl) ?_
        exact rw_iret hx hb hr hS hlocks (q5, tk5, tp5, n5, may5, hd5, fi5, un5) ⟨(show s_X1_readInto by_ len hd fi un = (nI 300, q5, tk5, tp5, n5, may5, hd5, fi5, un5) from by (unfold s_X1_readInto; (try dsimp only); (try rw [← hw_4]); (try dsimp only); (try rw [← hw_10]); (try dsimp only); (try rw [he15]); (try dsimp only [onE]); (try rw [if_pos c_21_13]); first | done | rfl)).symm, (by first | assumption | omega | rfl | exact Or.inl rfl | exact Or.inr (by omega) | (dsimp only; omega) | (dsimp only; intro h; omega) | (intro h; rcases h with h | h <;> contradiction)), (by first | assumption | omega | rfl | exact Or.inl rfl | exact Or.inr (by omega) | (dsimp only; omega) | (dsimp only; intro h; omega) | (intro h; rcases h with h | h <;> contradiction))⟩ hP hD dX1_readInto_68
      · refine lv_iload_n hx hb dX1_readInto_24 rfl (lv_at hl 2 rfl) ?_
        refine lv_sipush (v := 300) hx hb dX1_readInto_25 (by decide) ?_
        refine lv_icmp_ge (tgt := 67) hx hb dX1_readInto_28 (by decide) (fun _ => ?_) (fun hh_15 => absurd (nI_le (a := 300) (b := 300) (by omega) (by omega)) hh_15)
        refine lv_iload_n hx hb dX1_readInto_67 rfl (lv_at hl 2 rfl) ?_
        exact rw_iret hx hb hr hS hlocks (q5, tk5, tp5, n5, may5, hd5, fi5, un5) ⟨(show s_X1_readInto by_ len hd fi un = (nI 300, q5, tk5, tp5, n5, may5, hd5, fi5, un5) from by (unfold s_X1_readInto; (try dsimp only); (try rw [← hw_4]); (try dsimp only); (try rw [← hw_10]); (try dsimp only); (try rw [he15]); (try dsimp only [onE]); (try rw [if_neg c_21_13]); first | done | rfl)).symm, (by first | assumption | omega | rfl | exact Or.inl rfl | exact Or.inr (by omega) | (dsimp only; omega) | (dsimp only; intro h; omega) | (intro h; rcases h with h | h <;> contradiction)), (by first | assumption | omega | rfl | exact Or.inl rfl | exact Or.inr (by omega) | (dsimp only; omega) | (dsimp only; intro h; omega) | (intro h; rcases h with h | h <;> contradiction))⟩ hP hD dX1_readInto_68
    | succ z_12 ih15 =>
      intro j15 hj15 q5 tk5 tp5 n5 may5 hd5 fi5 un5 he15 hq5 hn5  H locs hP hD hS ls hl
      refine lv_aload_n hx hb dX1_readInto_15 rfl (lv_at hl 0 rfl) ?_
      refine va_get (D := D) (ci := 1) (v := .int tk5) (C := RX1) (T := TX1) (N := 5) hx hb hts hinX1 hown hK hP 0 rfl rfl 3 (by decide) (hts (.fieldLink RX1 30 "HoldUnless$Text" "token" "I") (by decide +kernel)) (fun _ h9 => h9) rfl dX1_readInto_16 ?_
      refine lv_bipush (v := 13) hx hb dX1_readInto_19 (by decide) ?_
      refine lv_icmp_eq (tgt := 67) hx hb dX1_readInto_21 (by decide) (fun c_21_16 => ?_) (fun c_21_16 => ?_)
      · refine lv_iload_n hx hb dX1_readInto_67 rfl (lv_at hl 2 rfl) ?_
        have hs_17 : itE (f_X1_readInto_15 by_ len) (plv_6, tkv_7, tpv_8, szv_1, mayv_2, hd, fi, un) (j15 + 1) = (.inl (nI j15, q5, tk5, tp5, n5, may5, hd5, fi5, un5)) := itE_succ he15 (by (unfold f_X1_readInto_15; (try dsimp only); (try rw [if_pos c_21_16]); first | done | rfl))
        have hn_18 := itE_stop hs_17 300 (by omega)
        exact rw_iret hx hb hr hS hlocks (q5, tk5, tp5, n5, may5, hd5, fi5, un5) ⟨(show s_X1_readInto by_ len hd fi un = (nI j15, q5, tk5, tp5, n5, may5, hd5, fi5, un5) from by (unfold s_X1_readInto; (try dsimp only); (try rw [← hw_4]); (try dsimp only); (try rw [← hw_10]); (try dsimp only); (try rw [hn_18]); (try dsimp only [onE]); first | done | rfl)).symm, (by first | assumption | omega | rfl | exact Or.inl rfl | exact Or.inr (by omega) | (dsimp only; omega) | (dsimp only; intro h; omega) | (intro h; rcases h with h | h <;> contradiction)), (by first | assumption | omega | rfl | exact Or.inl rfl | exact Or.inr (by omega) | (dsimp only; omega) | (dsimp only; intro h; omega) | (intro h; rcases h with h | h <;> contradiction))⟩ hP hD dX1_readInto_68
      · refine lv_iload_n hx hb dX1_readInto_24 rfl (lv_at hl 2 rfl) ?_
        refine lv_sipush (v := 300) hx hb dX1_readInto_25 (by decide) ?_
        refine lv_icmp_ge (tgt := 67) hx hb dX1_readInto_28 (by decide) (fun hh_20 => absurd hh_20 (nI_ge (a := j15) (b := 300) (by omega) (by omega))) (fun _ => ?_)
        refine lv_aload_n hx hb dX1_readInto_31 rfl (lv_at hl 0 rfl) ?_
        refine va_get (D := D) (ci := 1) (v := .int tk5) (C := RX1) (T := TX1) (N := 5) hx hb hts hinX1 hown hK hP 0 rfl rfl 3 (by decide) (hts (.fieldLink RX1 30 "HoldUnless$Text" "token" "I") (by decide +kernel)) (fun _ h9 => h9) rfl dX1_readInto_32 ?_
        refine lv_bipush (v := 11) hx hb dX1_readInto_35 (by decide) ?_
        refine lv_icmp_ne (tgt := 48) hx hb dX1_readInto_37 (by decide) (fun c_37_21 => ?_) (fun c_37_21 => ?_)
        · refine lv_aload_n hx hb dX1_readInto_48 rfl (lv_at hl 0 rfl) ?_
          refine lv_aload_n hx hb dX1_readInto_49 rfl (lv_at hl 1 rfl) ?_
          have hFc := va_free (wc := (wTB t0 t1 ct a0 a1 a2 a3 b1 b2 b3 by_ (nI len) (nI q5) tk5 tp5 (nI n5) may5 hd5 fi5 un5)) hD hS hA [0, 1, 2, 3, 4, 5] rfl
          refine rw_i (D := D) (wc := (wTB t0 t1 ct a0 a1 a2 a3 b1 b2 b3 by_ (nI len) (nI q5) tk5 tp5 (nI n5) may5 hd5 fi5 un5)) (va_runV (As := [.ref a0]) (rest := []) ⟨hx, hb, hml, hown, hts⟩ (c_X1_readRule l D t0 t1 ct a0 a1 a2 a3 b1 b2 b3 len q5 n5 by_ tk5 tp5 may5 hd5 fi5 un5 (by first | assumption | omega) (by first | assumption | omega) (by first | assumption | omega) _) (cwV 1 hts gX1_readInto_X1_readRule rfl rfl rfl (by decide +kernel) ⟨Nat.le_of_ble_eq_true rfl, Nat.le_of_ble_eq_true rfl⟩) ⟨cPre.blind, va_recv hK hP (ci := 1) (q0 := 0) rfl rfl, cPre.mk hP hK hD hN⟩ rfl rfl hl.1 rfl (lv_room (Nat.le_of_ble_eq_true rfl)) dX1_readInto_50 ⟨Nat.zero_le _, Nat.zero_le _⟩) hS hFc (fun rv_29 u H1 locs hw_30 hP1 hD1 hk1 hS => ?_)
          obtain ⟨plv_22, tkv_23, tpv_24, szv_25, hdv_26, fiv_27, unv_28⟩ := u
          try dsimp only at hw_30
          obtain ⟨hw_30, hpx_31, hpx_32⟩ := hw_30
          have hP : va_P D vwCl (wTB t0 t1 ct a0 a1 a2 a3 b1 b2 b3 by_ (nI len) (nI plv_22) tkv_23 tpv_24 (nI szv_25) may5 hdv_26 fiv_27 unv_28) H1 := hP1
          have hD : va_D A (wTB t0 t1 ct a0 a1 a2 a3 b1 b2 b3 by_ (nI len) (nI plv_22) tkv_23 tpv_24 (nI szv_25) may5 hdv_26 fiv_27 unv_28) := hD1.weaken (fun k q hk h => hFc _ h)
          clear hP1 hD1 hFc hk1
          generalize H1 = H at hP hS ⊢
          refine lv_istore_n (lv' := [(3, .int rv_29), (0, .ref t0), (1, .ref a0), (2, .int (nI j15))]) hx hb dX1_readInto_53 rfl hl (by decide) rfl (fun ls hl => ?_)
          refine lv_iload_n hx hb dX1_readInto_54 rfl (lv_at hl 0 rfl) ?_
          refine lv_if_ne (tgt := 61) hx hb dX1_readInto_55 (by decide) (fun c_55_33 => ?_) (fun c_55_33 => ?_)
          · refine lv_iinc (v := nI (j15 + 1)) (lv' := [(2, .int (nI (j15 + 1))), (3, .int rv_29), (0, .ref t0), (1, .ref a0)]) hx hb dX1_readInto_61 hl (k := 3) rfl (inc_nI j15) (by decide) rfl (fun ls hl => ?_)
            refine lv_goto (tgt := 15) hx hb dX1_readInto_64 (by decide) ?_
            exact ih15 (j15 + 1) (by omega) plv_22 tkv_23 tpv_24 szv_25 may5 hdv_26 fiv_27 unv_28 (itE_succ he15 (by (unfold f_X1_readInto_15; (try dsimp only); (try rw [if_neg c_21_16]); (try rw [if_neg c_37_21]); (try rw [← hw_30]); (try dsimp only); (try rw [if_neg c_55_33]); first | done | rfl))) (by first | assumption | omega) (by first | assumption | omega)  _ _ hP hD hS _ (lv_sub hl [2, 3, 0] rfl)
          · refine lv_bipush (v := (-9)) hx hb dX1_readInto_58 (by decide) ?_
            have hs_34 : itE (f_X1_readInto_15 by_ len) (plv_6, tkv_7, tpv_8, szv_1, mayv_2, hd, fi, un) (j15 + 1) = (.inl ((-9), plv_22, tkv_23, tpv_24, szv_25, may5, hdv_26, fiv_27, unv_28)) := itE_succ he15 (by (unfold f_X1_readInto_15; (try dsimp only); (try rw [if_neg c_21_16]); (try rw [if_neg c_37_21]); (try rw [← hw_30]); (try dsimp only); (try rw [if_pos c_55_33]); first | done | rfl))
            have hn_35 := itE_stop hs_34 300 (by omega)
            exact rw_iret hx hb hr hS hlocks (plv_22, tkv_23, tpv_24, szv_25, may5, hdv_26, fiv_27, unv_28) ⟨(show s_X1_readInto by_ len hd fi un = ((-9), plv_22, tkv_23, tpv_24, szv_25, may5, hdv_26, fiv_27, unv_28) from by (unfold s_X1_readInto; (try dsimp only); (try rw [← hw_4]); (try dsimp only); (try rw [← hw_10]); (try dsimp only); (try rw [hn_35]); (try dsimp only [onE]); first | done | rfl)).symm, (by first | assumption | omega | rfl | exact Or.inl rfl | exact Or.inr (by omega) | (dsimp only; omega) | (dsimp only; intro h; omega) | (intro h; rcases h with h | h <;> contradiction)), (by first | assumption | omega | rfl | exact Or.inl rfl | exact Or.inr (by omega) | (dsimp only; omega) | (dsimp only; intro h; omega) | (intro h; rcases h with h | h <;> contradiction))⟩ hP hD dX1_readInto_60
        · refine lv_aload_n hx hb dX1_readInto_40 rfl (lv_at hl 0 rfl) ?_
          refine lv_aload_n hx hb dX1_readInto_41 rfl (lv_at hl 1 rfl) ?_
          have hFc := va_free (wc := (wTB t0 t1 ct a0 a1 a2 a3 b1 b2 b3 by_ (nI len) (nI q5) tk5 tp5 (nI n5) may5 hd5 fi5 un5)) hD hS hA [0, 1, 2, 3, 4, 5] rfl
          refine rw_i (D := D) (wc := (wTB t0 t1 ct a0 a1 a2 a3 b1 b2 b3 by_ (nI len) (nI q5) tk5 tp5 (nI n5) may5 hd5 fi5 un5)) (va_runV (As := [.ref a0]) (rest := []) ⟨hx, hb, hml, hown, hts⟩ (c_X1_readMay l D t0 t1 ct a0 a1 a2 a3 b1 b2 b3 len q5 n5 by_ tk5 tp5 may5 hd5 fi5 un5 (by first | assumption | omega) (by first | assumption | omega) (by first | assumption | omega) _) (cwV 1 hts gX1_readInto_X1_readMay rfl rfl rfl (by decide +kernel) ⟨Nat.le_of_ble_eq_true rfl, Nat.le_of_ble_eq_true rfl⟩) ⟨cPre.blind, va_recv hK hP (ci := 1) (q0 := 0) rfl rfl, cPre.mk hP hK hD hN⟩ rfl rfl hl.1 rfl (lv_room (Nat.le_of_ble_eq_true rfl)) dX1_readInto_42 ⟨Nat.zero_le _, Nat.zero_le _⟩) hS hFc (fun rv_40 u H1 locs hw_41 hP1 hD1 hk1 hS => ?_)
          obtain ⟨plv_36, tkv_37, tpv_38, mayv_39⟩ := u
          try dsimp only at hw_41
          obtain ⟨hw_41, hpx_42⟩ := hw_41
          have hP : va_P D vwCl (wTB t0 t1 ct a0 a1 a2 a3 b1 b2 b3 by_ (nI len) (nI plv_36) tkv_37 tpv_38 (nI n5) mayv_39 hd5 fi5 un5) H1 := hP1
          have hD : va_D A (wTB t0 t1 ct a0 a1 a2 a3 b1 b2 b3 by_ (nI len) (nI plv_36) tkv_37 tpv_38 (nI n5) mayv_39 hd5 fi5 un5) := hD1.weaken (fun k q hk h => hFc _ h)
          clear hP1 hD1 hFc hk1
          generalize H1 = H at hP hS ⊢
          refine lv_goto (tgt := 53) hx hb dX1_readInto_45 (by decide) ?_
          refine lv_istore_n (lv' := [(3, .int rv_40), (0, .ref t0), (1, .ref a0), (2, .int (nI j15))]) hx hb dX1_readInto_53 rfl hl (by decide) rfl (fun ls hl => ?_)
          refine lv_iload_n hx hb dX1_readInto_54 rfl (lv_at hl 0 rfl) ?_
          refine lv_if_ne (tgt := 61) hx hb dX1_readInto_55 (by decide) (fun c_55_43 => ?_) (fun c_55_43 => ?_)
          · refine lv_iinc (v := nI (j15 + 1)) (lv' := [(2, .int (nI (j15 + 1))), (3, .int rv_40), (0, .ref t0), (1, .ref a0)]) hx hb dX1_readInto_61 hl (k := 3) rfl (inc_nI j15) (by decide) rfl (fun ls hl => ?_)
            refine lv_goto (tgt := 15) hx hb dX1_readInto_64 (by decide) ?_
            exact ih15 (j15 + 1) (by omega) plv_36 tkv_37 tpv_38 n5 mayv_39 hd5 fi5 un5 (itE_succ he15 (by (unfold f_X1_readInto_15; (try dsimp only); (try rw [if_neg c_21_16]); (try rw [if_pos c_37_21]); (try rw [← hw_41]); (try dsimp only); (try rw [if_neg c_55_43]); first | done | rfl))) (by first | assumption | omega) (by first | assumption | omega)  _ _ hP hD hS _ (lv_sub hl [2, 3, 0] rfl)
          · refine lv_bipush (v := (-9)) hx hb dX1_readInto_58 (by decide) ?_
            have hs_44 : itE (f_X1_readInto_15 by_ len) (plv_6, tkv_7, tpv_8, szv_1, mayv_2, hd, fi, un) (j15 + 1) = (.inl ((-9), plv_36, tkv_37, tpv_38, n5, mayv_39, hd5, fi5, un5)) := itE_succ he15 (by (unfold f_X1_readInto_15; (try dsimp only); (try rw [if_neg c_21_16]); (try rw [if_pos c_37_21]); (try rw [← hw_41]); (try dsimp only); (try rw [if_pos c_55_43]); first | done | rfl))
            have hn_45 := itE_stop hs_44 300 (by omega)
            exact rw_iret hx hb hr hS hlocks (plv_36, tkv_37, tpv_38, n5, mayv_39, hd5, fi5, un5) ⟨(show s_X1_readInto by_ len hd fi un = ((-9), plv_36, tkv_37, tpv_38, n5, mayv_39, hd5, fi5, un5) from by (unfold s_X1_readInto; (try dsimp only); (try rw [← hw_4]); (try dsimp only); (try rw [← hw_10]); (try dsimp only); (try rw [hn_45]); (try dsimp only [onE]); first | done | rfl)).symm, (by first | assumption | omega | rfl | exact Or.inl rfl | exact Or.inr (by omega) | (dsimp only; omega) | (dsimp only; intro h; omega) | (intro h; rcases h with h | h <;> contradiction)), (by first | assumption | omega | rfl | exact Or.inl rfl | exact Or.inr (by omega) | (dsimp only; omega) | (dsimp only; intro h; omega) | (intro h; rcases h with h | h <;> contradiction))⟩ hP hD dX1_readInto_60
  exact lp15_12 300 0 (by omega) plv_6 tkv_7 tpv_8 szv_1 mayv_2 hd fi un (itE_zero _ _) (by first | assumption | omega) (by first | assumption | omega)  _ _ hP hD hS _ (lv_sub hl [1, 2, 0] rfl)

