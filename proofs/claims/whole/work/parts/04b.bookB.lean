theorem hasRoom_lt {n : Nat} (h : ¬ s_X0_hasRoom n = 0) (hn : n ≤ 10) : n < 10 := by
  unfold s_X0_hasRoom at h
  rcases Nat.lt_or_ge n 10 with q | q
  · exact q
  · rw [if_pos (show (10 : Int32) ≤ nI n from nI_le (a := 10) (b := n) q (by omega))] at h
    exact absurd rfl h

def s_X0_forgetAll : Nat × Int32 := (0, 0)
set_option maxHeartbeats 4000000 in
set_option maxRecDepth 100000 in
theorem c_X0_forgetAll (l : Launch) (D : va_G) (a0 : Nat) (a1 : Nat) (a2 : Nat) (a3 : Nat) (b1 : ClassId) (b2 : ClassId) (b3 : ClassId) (n : Nat) (may : Int32) (hd : Nat → Int32) (fi : Nat → Int32) (un : Nat → Int32) (sz : Nat) : Met l yX0_forgetAll wsX0_forgetAll ({ frames := 0, cells := 0, slots := 0, locals := 0 }) (va_Pc [.ref a0] (cPre D (tB a0 a1 a2 a3 b1 b2 b3) (wB a0 a1 a2 a3 b1 b2 b3 (nI n) may hd fi un) sz)) (va_Qv (fun (u : Nat × Int32) => (u.1, u.2) = s_X0_forgetAll ∧ (u.1 = 0)) (rwB D (fun u : Nat × Int32 => (wB a0 a1 a2 a3 b1 b2 b3 (nI u.1) u.2 hd fi un)) (va_A (wB a0 a1 a2 a3 b1 b2 b3 (nI n) may hd fi un) sz)) (va_A (wB a0 a1 a2 a3 b1 b2 b3 (nI n) may hd fi un) sz)) 0 0 (va_A (wB a0 a1 a2 a3 b1 b2 b3 (nI n) may hd fi un) sz) := by
  refine Met.ofW (cc := cX0_forgetAll) (maxL := 1) (ret := none) (by decide) rfl ?_
  intro p e s m args below meth c s₁ B hml hv
  obtain ⟨rfl, hsz, hP, hK, hD, hN⟩ := hv
  have hx := B.exec
  have hb := B.bytes
  have hr := B.returns
  have hts := atoms_spec (ws := wsX0_forgetAll) B.pre
  have hown : s.vm.findClass RX0 = some m.cls := findClass_of_methodNamed B.named
  have hlocks := B.notSynchronized
  have hinX0 : ∀ w ∈ wsX00, w ∈ wsX0_forgetAll := fun w h => List.mem_cons_of_mem _ (List.mem_append_right _ h)
  subst hsz
  replace hD := hD.self (sz := s.heap.size)
  generalize hAe : va_A (wB a0 a1 a2 a3 b1 b2 b3 (nI n) may hd fi un) s.heap.size = A at hD ⊢
  have hA : ∀ q : Nat, s.heap.size ≤ q → A q := fun q h => by rw [← hAe]; exact Or.inr h
  have hS : va_S A s.heap s.heap [] := va_S.rf
  have hl := lv_entry ([.ref a0]) (n := 1) (Nat.le_of_ble_eq_true rfl)
  rw [lg_entry_eq]
  generalize (lg_sl ([.ref a0]) ++ List.replicate (1 - (lg_sl ([.ref a0])).length) Slot.unset).toArray = ls at hl ⊢
  replace hl : lv_has ls 1 [(0, .ref a0)] := hl
  have hKe := hK.sub (tys' := []) [] rfl
  refine lv_aload_n hx hb dX0_forgetAll_0 rfl (lv_at hl 0 rfl) ?_
  refine lv_iconst (v := 0) hx hb dX0_forgetAll_1 (by decide) ?_
  refine va_put (D := D) (ci := 0) (v := .int 0) (ty := .int) (C := RX0) (T := TX0) (N := 5) hx hb hts hinX0 tyX0 tyX0_ok nmX0 hown hK hP hD hS 0 rfl rfl 0 (by decide) (hts (.fieldLink RX0 21 "HoldUnless$RuleBook" "size" "I") (by decide +kernel)) (fun _ h9 => h9) rfl (by decide +kernel) rfl rfl (Nat.le_of_ble_eq_true rfl) dX0_forgetAll_2 (fun H locs hP hD hS => ?_)
  replace hP : va_P D vwCl (wB a0 a1 a2 a3 b1 b2 b3 0 may hd fi un) H := hP
  replace hD : va_D A (wB a0 a1 a2 a3 b1 b2 b3 0 may hd fi un) := hD
  refine lv_aload_n hx hb dX0_forgetAll_5 rfl (lv_at hl 0 rfl) ?_
  refine lv_iconst (v := 0) hx hb dX0_forgetAll_6 (by decide) ?_
  refine va_put (D := D) (ci := 0) (v := .int 0) (ty := .int) (C := RX0) (T := TX0) (N := 5) hx hb hts hinX0 tyX0 tyX0_ok nmX0 hown hK hP hD hS 0 rfl rfl 1 (by decide) (hts (.fieldLink RX0 25 "HoldUnless$RuleBook" "may" "I") (by decide +kernel)) (fun _ h9 => h9) rfl (by decide +kernel) rfl rfl (Nat.le_of_ble_eq_true rfl) dX0_forgetAll_7 (fun H locs hP hD hS => ?_)
  replace hP : va_P D vwCl (wB a0 a1 a2 a3 b1 b2 b3 0 0 hd fi un) H := hP
  replace hD : va_D A (wB a0 a1 a2 a3 b1 b2 b3 0 0 hd fi un) := hD
  exact rw_vret hx hb hr hS hlocks (0, 0) ⟨(show s_X0_forgetAll = (0, 0) from by (unfold s_X0_forgetAll; (try dsimp only); first | done | rfl)).symm, (by first | assumption | omega | rfl | exact Or.inl rfl | exact Or.inr (by omega) | (intro h; omega) | (intro h; rcases h with h | h <;> contradiction))⟩ hP hD dX0_forgetAll_10

def s_X0_add (n : Nat) (hd : Nat → Int32) (fi : Nat → Int32) (un : Nat → Int32) (nh : Int32) (ni : Int32) (nu : Int32) : Nat × (Nat → Int32) × (Nat → Int32) × (Nat → Int32) := (if (s_X0_hasRoom n) = 0 then (n, hd, fi, un) else ((n + 1), (upd hd n nh), (upd fi n ni), (upd un n nu)))
set_option maxHeartbeats 4000000 in
set_option maxRecDepth 100000 in
theorem c_X0_add (l : Launch) (D : va_G) (a0 : Nat) (a1 : Nat) (a2 : Nat) (a3 : Nat) (b1 : ClassId) (b2 : ClassId) (b3 : ClassId) (n : Nat) (may : Int32) (hd : Nat → Int32) (fi : Nat → Int32) (un : Nat → Int32) (nh : Int32) (ni : Int32) (nu : Int32) (hn : n ≤ 10) (sz : Nat) : Met l yX0_add wsX0_add ({ frames := 1, cells := 0, slots := 0, locals := 20 }) (va_Pc [.ref a0, .int nh, .int ni, .int nu] (cPre D (tB a0 a1 a2 a3 b1 b2 b3) (wB a0 a1 a2 a3 b1 b2 b3 (nI n) may hd fi un) sz)) (va_Qv (fun (u : Nat × (Nat → Int32) × (Nat → Int32) × (Nat → Int32)) => (u.1, u.2.1, u.2.2.1, u.2.2.2) = s_X0_add n hd fi un nh ni nu ∧ (u.1 ≤ 10)) (rwB D (fun u : Nat × (Nat → Int32) × (Nat → Int32) × (Nat → Int32) => (wB a0 a1 a2 a3 b1 b2 b3 (nI u.1) may u.2.1 u.2.2.1 u.2.2.2)) (va_A (wB a0 a1 a2 a3 b1 b2 b3 (nI n) may hd fi un) sz)) (va_A (wB a0 a1 a2 a3 b1 b2 b3 (nI n) may hd fi un) sz)) 0 0 (va_A (wB a0 a1 a2 a3 b1 b2 b3 (nI n) may hd fi un) sz) := by
  refine Met.ofW (cc := cX0_add) (maxL := 4) (ret := none) (by decide) rfl ?_
  intro p e s m args below meth c s₁ B hml hv
  obtain ⟨rfl, hsz, hP, hK, hD, hN⟩ := hv
  have hx := B.exec
  have hb := B.bytes
  have hr := B.returns
  have hts := atoms_spec (ws := wsX0_add) B.pre
  have hown : s.vm.findClass RX0 = some m.cls := findClass_of_methodNamed B.named
  have hlocks := B.notSynchronized
  have hinX0 : ∀ w ∈ wsX00, w ∈ wsX0_add := fun w h => List.mem_cons_of_mem _ (List.mem_append_right _ h)
  subst hsz
  replace hD := hD.self (sz := s.heap.size)
  generalize hAe : va_A (wB a0 a1 a2 a3 b1 b2 b3 (nI n) may hd fi un) s.heap.size = A at hD ⊢
  have hA : ∀ q : Nat, s.heap.size ≤ q → A q := fun q h => by rw [← hAe]; exact Or.inr h
  have hS : va_S A s.heap s.heap [] := va_S.rf
  have hl := lv_entry ([.ref a0, .int nh, .int ni, .int nu]) (n := 4) (Nat.le_of_ble_eq_true rfl)
  rw [lg_entry_eq]
  generalize (lg_sl ([.ref a0, .int nh, .int ni, .int nu]) ++ List.replicate (4 - (lg_sl ([.ref a0, .int nh, .int ni, .int nu])).length) Slot.unset).toArray = ls at hl ⊢
  replace hl : lv_has ls 4 [(0, .ref a0), (1, .int nh), (2, .int ni), (3, .int nu)] := hl
  have hKe := hK.sub (tys' := []) [] rfl
  refine lv_aload_n hx hb dX0_add_0 rfl (lv_at hl 0 rfl) ?_
  refine ro_i (D := D) (va_runV (As := []) (rest := []) ⟨hx, hb, hml, hown, hts⟩ (c_X0_hasRoom l D a0 a1 a2 a3 b1 b2 b3 n may hd fi un (by first | assumption | omega) _) (cwV 0 hts gX0_add_X0_hasRoom rfl rfl rfl (by decide +kernel) ⟨Nat.le_of_ble_eq_true rfl, Nat.le_of_ble_eq_true rfl⟩) ⟨cPre.blind, va_recv hK hP (ci := 0) (q0 := 0) rfl rfl, cPre.mk hP hK hD hN⟩ rfl rfl hl.1 rfl (lv_room (Nat.le_of_ble_eq_true rfl)) dX0_add_1 ⟨Nat.zero_le _, Nat.zero_le _⟩) hS hA (fun H locs hkp0 hS => ?_)
  replace hP := hkp0 _ hP
  refine lv_if_eq (tgt := 47) hx hb dX0_add_4 (by decide) (fun c_4_1 => ?_) (fun c_4_1 => ?_)
  · exact rw_vret hx hb hr hS hlocks (n, hd, fi, un) ⟨(show s_X0_add n hd fi un nh ni nu = (n, hd, fi, un) from by (unfold s_X0_add; (try dsimp only); (try rw [if_pos c_4_1]); first | done | rfl)).symm, (by first | assumption | omega | rfl | exact Or.inl rfl | exact Or.inr (by omega) | (intro h; omega) | (intro h; rcases h with h | h <;> contradiction))⟩ hP hD dX0_add_47
  · have hroom : n < 10 := hasRoom_lt c_4_1 hn
    refine lv_aload_n hx hb dX0_add_7 rfl (lv_at hl 0 rfl) ?_
    refine va_get (D := D) (ci := 0) (v := .ref a1) (C := RX0) (T := TX0) (N := 5) hx hb hts hinX0 hown hK hP 0 rfl rfl 2 (by decide) (hts (.fieldLink RX0 9 "HoldUnless$RuleBook" "head" "[I") (by decide +kernel)) (fun _ h9 => h9) rfl dX0_add_8 ?_
    refine lv_aload_n hx hb dX0_add_11 rfl (lv_at hl 0 rfl) ?_
    refine va_get (D := D) (ci := 0) (v := .int (nI n)) (C := RX0) (T := TX0) (N := 5) hx hb hts hinX0 hown hK hP 0 rfl rfl 0 (by decide) (hts (.fieldLink RX0 21 "HoldUnless$RuleBook" "size" "I") (by decide +kernel)) (fun _ h9 => h9) rfl dX0_add_12 ?_
    refine lv_iload_n hx hb dX0_add_15 rfl (lv_at hl 1 rfl) ?_
    refine wa_ist hx hb hK hP hD hS 1 0 rfl rfl n rfl (by omega) (by decide) dX0_add_16 (fun H locs hP hD hS => ?_)
    replace hP : va_P D vwCl (wB a0 a1 a2 a3 b1 b2 b3 (nI n) may (upd hd n nh) fi un) H := hP
    replace hD : va_D A (wB a0 a1 a2 a3 b1 b2 b3 (nI n) may (upd hd n nh) fi un) := hD
    refine lv_aload_n hx hb dX0_add_17 rfl (lv_at hl 0 rfl) ?_
    refine va_get (D := D) (ci := 0) (v := .ref a2) (C := RX0) (T := TX0) (N := 5) hx hb hts hinX0 hown hK hP 0 rfl rfl 3 (by decide) (hts (.fieldLink RX0 15 "HoldUnless$RuleBook" "ifs" "[I") (by decide +kernel)) (fun _ h9 => h9) rfl dX0_add_18 ?_
    refine lv_aload_n hx hb dX0_add_21 rfl (lv_at hl 0 rfl) ?_
    refine va_get (D := D) (ci := 0) (v := .int (nI n)) (C := RX0) (T := TX0) (N := 5) hx hb hts hinX0 hown hK hP 0 rfl rfl 0 (by decide) (hts (.fieldLink RX0 21 "HoldUnless$RuleBook" "size" "I") (by decide +kernel)) (fun _ h9 => h9) rfl dX0_add_22 ?_
    refine lv_iload_n hx hb dX0_add_25 rfl (lv_at hl 2 rfl) ?_
    refine wa_ist hx hb hK hP hD hS 2 1 rfl rfl n rfl (by omega) (by decide) dX0_add_26 (fun H locs hP hD hS => ?_)
    replace hP : va_P D vwCl (wB a0 a1 a2 a3 b1 b2 b3 (nI n) may (upd hd n nh) (upd fi n ni) un) H := hP
    replace hD : va_D A (wB a0 a1 a2 a3 b1 b2 b3 (nI n) may (upd hd n nh) (upd fi n ni) un) := hD
    refine lv_aload_n hx hb dX0_add_27 rfl (lv_at hl 0 rfl) ?_
    refine va_get (D := D) (ci := 0) (v := .ref a3) (C := RX0) (T := TX0) (N := 5) hx hb hts hinX0 hown hK hP 0 rfl rfl 4 (by decide) (hts (.fieldLink RX0 18 "HoldUnless$RuleBook" "unless" "[I") (by decide +kernel)) (fun _ h9 => h9) rfl dX0_add_28 ?_
    refine lv_aload_n hx hb dX0_add_31 rfl (lv_at hl 0 rfl) ?_
    refine va_get (D := D) (ci := 0) (v := .int (nI n)) (C := RX0) (T := TX0) (N := 5) hx hb hts hinX0 hown hK hP 0 rfl rfl 0 (by decide) (hts (.fieldLink RX0 21 "HoldUnless$RuleBook" "size" "I") (by decide +kernel)) (fun _ h9 => h9) rfl dX0_add_32 ?_
    refine lv_iload_n hx hb dX0_add_35 rfl (lv_at hl 3 rfl) ?_
    refine wa_ist hx hb hK hP hD hS 3 2 rfl rfl n rfl (by omega) (by decide) dX0_add_36 (fun H locs hP hD hS => ?_)
    replace hP : va_P D vwCl (wB a0 a1 a2 a3 b1 b2 b3 (nI n) may (upd hd n nh) (upd fi n ni) (upd un n nu)) H := hP
    replace hD : va_D A (wB a0 a1 a2 a3 b1 b2 b3 (nI n) may (upd hd n nh) (upd fi n ni) (upd un n nu)) := hD
    refine lv_aload_n hx hb dX0_add_37 rfl (lv_at hl 0 rfl) ?_
    refine lv_dup hx hb dX0_add_38 rfl ?_
    refine va_get (D := D) (ci := 0) (v := .int (nI n)) (C := RX0) (T := TX0) (N := 5) hx hb hts hinX0 hown hK hP 0 rfl rfl 0 (by decide) (hts (.fieldLink RX0 21 "HoldUnless$RuleBook" "size" "I") (by decide +kernel)) (fun _ h9 => h9) rfl dX0_add_39 ?_
    refine lv_iconst (v := 1) hx hb dX0_add_42 (by decide) ?_
    refine lv_iadd hx hb dX0_add_43 ?_
    refine lv_cv (nI_1 n) ?_
    refine va_put (D := D) (ci := 0) (v := .int (nI (n + 1))) (ty := .int) (C := RX0) (T := TX0) (N := 5) hx hb hts hinX0 tyX0 tyX0_ok nmX0 hown hK hP hD hS 0 rfl rfl 0 (by decide) (hts (.fieldLink RX0 21 "HoldUnless$RuleBook" "size" "I") (by decide +kernel)) (fun _ h9 => h9) rfl (by decide +kernel) rfl rfl (Nat.le_of_ble_eq_true rfl) dX0_add_44 (fun H locs hP hD hS => ?_)
    replace hP : va_P D vwCl (wB a0 a1 a2 a3 b1 b2 b3 (nI (n + 1)) may (upd hd n nh) (upd fi n ni) (upd un n nu)) H := hP
    replace hD : va_D A (wB a0 a1 a2 a3 b1 b2 b3 (nI (n + 1)) may (upd hd n nh) (upd fi n ni) (upd un n nu)) := hD
    exact rw_vret hx hb hr hS hlocks ((n + 1), (upd hd n nh), (upd fi n ni), (upd un n nu)) ⟨(show s_X0_add n hd fi un nh ni nu = ((n + 1), (upd hd n nh), (upd fi n ni), (upd un n nu)) from by (unfold s_X0_add; (try dsimp only); (try rw [if_neg c_4_1]); first | done | rfl)).symm, (by first | assumption | omega | rfl | exact Or.inl rfl | exact Or.inr (by omega) | (intro h; omega) | (intro h; rcases h with h | h <;> contradiction))⟩ hP hD dX0_add_47

