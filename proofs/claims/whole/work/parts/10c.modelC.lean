theorem vp_ruleM {n : Nat} {k : Int32} (h : ¬ s_X3_isRule n k = 0) (hn : n ≤ 10) : vp_in k 10 := by
  have e : (nI n - 1).toInt = (n : Int) - 1 := pk_sub_toInt (a := n) (b := 1) (by omega) (by omega)
  have h2 := vp_inM (n := n) (by rw [Int32.toInt_toInt64]; exact e) h
  rw [vp_in_iff] at h2 ⊢
  omega

def s_X3_clear (td : Int32) : Int32 × Int32 := (td, 0)
set_option maxHeartbeats 4000000 in
set_option maxRecDepth 100000 in
theorem c_X3_clear (l : Launch) (D : va_G) (h : Nat → Nat) (cA : Nat → ClassId) (n : Nat) (hd : Nat → Int32) (fi : Nat → Int32) (un : Nat → Int32) (on : Int32) (may : Int32) (asd : Int32) (tx : Nat → Int32) (td : Int32) (kp : Nat → Int32) (ko : Nat → Int32) (ka : Nat → Int32) (tr : Int64) (pat : Int32) (pfr : Int32) (rhd : Nat → Int32) (rif : Nat → Int32) (rul : Nat → Int32) (prr : Int32) (prm : Int32) (rd : Nat → Int32) (bb : Nat → Int32) (nw : Nat → Int32) (ot : Nat → Int32) (ev : Nat → Int32) (od : Nat → Int32) (hn : n ≤ 10) (sz : Nat) : Met l yX3_clear wsX3_clear ({ frames := 0, cells := 0, slots := 0, locals := 0 }) (va_Pc [.ref (h 0)] (cPre D (tM h cA) (wM h cA (nI n) hd fi un on may asd tx td kp ko ka tr pat pfr rhd rif rul prr prm rd bb nw ot ev od) sz)) (va_Qi (fun (r : Int32) (u : Int32) => (r, u) = s_X3_clear td) (rwB D (fun u : Int32 => (wM h cA (nI n) hd fi un on may asd tx u kp ko ka tr pat pfr rhd rif rul prr prm rd bb nw ot ev od)) (va_A (wM h cA (nI n) hd fi un on may asd tx td kp ko ka tr pat pfr rhd rif rul prr prm rd bb nw ot ev od) sz)) (va_A (wM h cA (nI n) hd fi un on may asd tx td kp ko ka tr pat pfr rhd rif rul prr prm rd bb nw ot ev od) sz)) 0 0 (va_A (wM h cA (nI n) hd fi un on may asd tx td kp ko ka tr pat pfr rhd rif rul prr prm rd bb nw ot ev od) sz) := by
  refine Met.ofW (cc := cX3_clear) (maxL := 2) (ret := (some .int)) (by decide) rfl ?_
  intro p e s m args below meth c s₁ B hml hv
  obtain ⟨rfl, hsz, hP, hK, hD, hN⟩ := hv
  have hx := B.exec
  have hb := B.bytes
  have hr := B.returns
  have hts := atoms_spec (ws := wsX3_clear) B.pre
  have hown : s.vm.findClass RX3 = some m.cls := findClass_of_methodNamed B.named
  have hlocks := B.notSynchronized
  have hinX3 : ∀ w ∈ wsX30, w ∈ wsX3_clear := fun w h => List.mem_cons_of_mem _ (List.mem_append_right _ h)
  subst hsz
  replace hD := hD.self (sz := s.heap.size)
  generalize hAe : va_A (wM h cA (nI n) hd fi un on may asd tx td kp ko ka tr pat pfr rhd rif rul prr prm rd bb nw ot ev od) s.heap.size = A at hD ⊢
  have hA : ∀ q : Nat, s.heap.size ≤ q → A q := fun q h => by rw [← hAe]; exact Or.inr h
  have hS : va_S A s.heap s.heap [] := va_S.rf
  have hl := lv_entry ([.ref (h 0)]) (n := 2) (Nat.le_of_ble_eq_true rfl)
  rw [lg_entry_eq]
  generalize (lg_sl ([.ref (h 0)]) ++ List.replicate (2 - (lg_sl ([.ref (h 0)])).length) Slot.unset).toArray = ls at hl ⊢
  replace hl : lv_has ls 2 [(0, .ref (h 0))] := hl
  have hKe := hK.sub (tys' := []) [] rfl
  refine lv_aload_n hx hb dX3_clear_0 rfl (lv_at hl 0 rfl) ?_
  refine va_get (D := D) (ci := 3) (v := .int td) (C := RX3) (T := TX3) (N := 26) hx hb hts hinX3 hown hK hP 0 rfl rfl 8 (by decide) (hts (.fieldLink RX3 69 "HoldUnlessModel" "texted" "I") (by decide +kernel)) (fun _ h9 => h9) rfl dX3_clear_1 ?_
  refine lv_istore_n (lv' := [(1, .int td), (0, .ref (h 0))]) hx hb dX3_clear_4 rfl hl (by decide) rfl (fun ls hl => ?_)
  refine lv_aload_n hx hb dX3_clear_5 rfl (lv_at hl 1 rfl) ?_
  refine lv_iconst (v := 0) hx hb dX3_clear_6 (by decide) ?_
  refine va_put (D := D) (ci := 3) (v := .int 0) (ty := .int) (C := RX3) (T := TX3) (N := 26) hx hb hts hinX3 tyX3 tyX3_ok nmX3 hown hK hP hD hS 0 rfl rfl 8 (by decide) (hts (.fieldLink RX3 69 "HoldUnlessModel" "texted" "I") (by decide +kernel)) (fun _ h9 => h9) rfl (by decide +kernel) rfl rfl (Nat.le_of_ble_eq_true rfl) dX3_clear_7 (fun H locs hP hD hS => ?_)
  replace hP : va_P D vwCl (wM h cA (nI n) hd fi un on may asd tx 0 kp ko ka tr pat pfr rhd rif rul prr prm rd bb nw ot ev od) H := hP
  replace hD : va_D A (wM h cA (nI n) hd fi un on may asd tx 0 kp ko ka tr pat pfr rhd rif rul prr prm rd bb nw ot ev od) := hD
  refine lv_iload_n hx hb dX3_clear_10 rfl (lv_at hl 0 rfl) ?_
  exact rw_iret hx hb hr hS hlocks 0 (show s_X3_clear td = (td, 0) from by (unfold s_X3_clear; (try dsimp only); first | done | rfl)).symm hP hD dX3_clear_11

def s_X3_rule (n : Nat) (hd : Nat → Int32) (fi : Nat → Int32) (un : Nat → Int32) (on : Int32) (k : Int32) (what : Int32) : Int32 := (if (s_X3_isRule n k) = 0 then (-1) else (if (s_X3_in ((what : Int32).toInt64) 0 3) = 0 then (-1) else (if what = 0 then (hd k.toNatClampNeg) else (if what = 1 then (fi k.toNatClampNeg) else (if what = 2 then (un k.toNatClampNeg) else ((on >>> (k &&& 31)) &&& 1))))))
set_option maxHeartbeats 4000000 in
set_option maxRecDepth 100000 in
theorem c_X3_rule (l : Launch) (D : va_G) (h : Nat → Nat) (cA : Nat → ClassId) (n : Nat) (hd : Nat → Int32) (fi : Nat → Int32) (un : Nat → Int32) (on : Int32) (may : Int32) (asd : Int32) (tx : Nat → Int32) (td : Int32) (kp : Nat → Int32) (ko : Nat → Int32) (ka : Nat → Int32) (tr : Int64) (pat : Int32) (pfr : Int32) (rhd : Nat → Int32) (rif : Nat → Int32) (rul : Nat → Int32) (prr : Int32) (prm : Int32) (rd : Nat → Int32) (bb : Nat → Int32) (nw : Nat → Int32) (ot : Nat → Int32) (ev : Nat → Int32) (od : Nat → Int32) (k : Int32) (what : Int32) (hn : n ≤ 10) (sz : Nat) : Met l yX3_rule wsX3_rule ({ frames := 2, cells := 0, slots := 0, locals := 46 }) (va_Pc [.ref (h 0), .int k, .int what] (cPre D (tM h cA) (wM h cA (nI n) hd fi un on may asd tx td kp ko ka tr pat pfr rhd rif rul prr prm rd bb nw ot ev od) sz)) (va_Qi (fun r (_ : Unit) => r = s_X3_rule n hd fi un on k what) (fun _ _ => True) (fun q => sz ≤ q)) 0 0 (fun q => sz ≤ q) := by
  refine Met.ofW (cc := cX3_rule) (maxL := 3) (ret := (some .int)) (by decide) rfl ?_
  intro p e s m args below meth c s₁ B hml hv
  obtain ⟨rfl, hsz, hP, hK, hD, hN⟩ := hv
  have hx := B.exec
  have hb := B.bytes
  have hr := B.returns
  have hts := atoms_spec (ws := wsX3_rule) B.pre
  have hown : s.vm.findClass RX3 = some m.cls := findClass_of_methodNamed B.named
  have hlocks := B.notSynchronized
  have hinX3 : ∀ w ∈ wsX30, w ∈ wsX3_rule := fun w h => List.mem_cons_of_mem _ (List.mem_append_right _ h)
  subst hsz
  obtain ⟨A, hAe⟩ : ∃ A : Nat → Prop, A = (fun q : Nat => s.heap.size ≤ q) := ⟨_, rfl⟩
  have hA : ∀ q : Nat, s.heap.size ≤ q → A q := fun q h => by rw [hAe]; exact h
  have hS : va_S A s.heap s.heap [] := va_S.rf
  subst hAe
  have hl := lv_entry ([.ref (h 0), .int k, .int what]) (n := 3) (Nat.le_of_ble_eq_true rfl)
  rw [lg_entry_eq]
  generalize (lg_sl ([.ref (h 0), .int k, .int what]) ++ List.replicate (3 - (lg_sl ([.ref (h 0), .int k, .int what])).length) Slot.unset).toArray = ls at hl ⊢
  replace hl : lv_has ls 3 [(0, .ref (h 0)), (1, .int k), (2, .int what)] := hl
  have hKe := hK.sub (tys' := []) [] rfl
  refine lv_aload_n hx hb dX3_rule_0 rfl (lv_at hl 0 rfl) ?_
  refine lv_iload_n hx hb dX3_rule_1 rfl (lv_at hl 1 rfl) ?_
  refine ro_i (D := D) (va_runV (As := [.int k]) (rest := []) ⟨hx, hb, hml, hown, hts⟩ (c_X3_isRule l D h cA n hd fi un on may asd tx td kp ko ka tr pat pfr rhd rif rul prr prm rd bb nw ot ev od k (by first | assumption | omega) _) (cwV 1 hts gX3_rule_X3_isRule rfl rfl rfl (by decide +kernel) ⟨Nat.le_of_ble_eq_true rfl, Nat.le_of_ble_eq_true rfl⟩) ⟨cPre.blind, va_recv hK hP (ci := 3) (q0 := 0) rfl rfl, cPre.mk hP hK hD hN⟩ rfl rfl hl.1 rfl (lv_room (Nat.le_of_ble_eq_true rfl)) dX3_rule_2 ⟨Nat.zero_le _, Nat.zero_le _⟩) hS hA (fun H locs hkp0 hS => ?_)
  replace hP := hkp0 _ hP
  refine lv_if_eq (tgt := 20) hx hb dX3_rule_5 (by decide) (fun c_5_1 => ?_) (fun c_5_1 => ?_)
  · refine lv_iconst (v := (-1)) hx hb dX3_rule_20 (by decide) ?_
    exact ro_iret hx hb hr hS hlocks (show s_X3_rule n hd fi un on k what = (-1) from by (unfold s_X3_rule; (try dsimp only); (try rw [if_pos c_5_1]); first | done | rfl)).symm dX3_rule_21
  · refine lv_iload_n hx hb dX3_rule_8 rfl (lv_at hl 2 rfl) ?_
    refine lv_i2l hx hb dX3_rule_9 rfl ?_
    refine lv_lconst (v := 0) hx hb dX3_rule_10 (by decide) ?_
    refine lv_ldc2 (v := 3) hx hb hown (hts (.constantLong RX3 126 (3)) (by decide +kernel)) dX3_rule_11 ?_
    refine ro_i (D := D) (va_runS (As := [.long ((what : Int32).toInt64), .long 0, .long 3]) (rest := []) ⟨hx, hb, hml, hown, hts⟩ (c_X3_in l D ((what : Int32).toInt64) 0 3  _) (va_cwS 3 hts gX3_rule_X3_in rfl rfl rfl (by decide +kernel) ⟨Nat.le_of_ble_eq_true rfl, Nat.le_of_ble_eq_true rfl⟩) ⟨cPre.blind, cPre.mk vP0 hKe vD0 hN⟩ rfl rfl hl.1 rfl (lv_room (Nat.le_of_ble_eq_true rfl)) dX3_rule_14 ⟨Nat.zero_le _, Nat.zero_le _⟩) hS hA (fun H locs hkp0 hS => ?_)
    replace hP := hkp0 _ hP
    refine lv_if_ne (tgt := 22) hx hb dX3_rule_17 (by decide) (fun c_17_2 => ?_) (fun c_17_2 => ?_)
    · refine lv_iload_n hx hb dX3_rule_22 rfl (lv_at hl 2 rfl) ?_
      refine lv_if_ne (tgt := 35) hx hb dX3_rule_23 (by decide) (fun c_23_3 => ?_) (fun c_23_3 => ?_)
      · refine lv_iload_n hx hb dX3_rule_35 rfl (lv_at hl 2 rfl) ?_
        refine lv_iconst (v := 1) hx hb dX3_rule_36 (by decide) ?_
        refine lv_icmp_ne (tgt := 49) hx hb dX3_rule_37 (by decide) (fun c_37_4 => ?_) (fun c_37_4 => ?_)
        · refine lv_iload_n hx hb dX3_rule_49 rfl (lv_at hl 2 rfl) ?_
          refine lv_iconst (v := 2) hx hb dX3_rule_50 (by decide) ?_
          refine lv_icmp_ne (tgt := 63) hx hb dX3_rule_51 (by decide) (fun c_51_5 => ?_) (fun c_51_5 => ?_)
          · refine lv_aload_n hx hb dX3_rule_63 rfl (lv_at hl 0 rfl) ?_
            refine va_get (D := D) (ci := 3) (v := .int on) (C := RX3) (T := TX3) (N := 26) hx hb hts hinX3 hown hK hP 0 rfl rfl 4 (by decide) (hts (.fieldLink RX3 114 "HoldUnlessModel" "on" "I") (by decide +kernel)) (fun _ h9 => h9) rfl dX3_rule_64 ?_
            refine lv_iload_n hx hb dX3_rule_67 rfl (lv_at hl 1 rfl) ?_
            refine lv_ishr hx hb dX3_rule_68 ?_
            refine lv_iconst (v := 1) hx hb dX3_rule_69 (by decide) ?_
            refine lv_iand hx hb dX3_rule_70 ?_
            exact ro_iret hx hb hr hS hlocks (show s_X3_rule n hd fi un on k what = ((on >>> (k &&& 31)) &&& 1) from by (unfold s_X3_rule; (try dsimp only); (try rw [if_neg c_5_1]); (try rw [if_neg c_17_2]); (try rw [if_neg c_23_3]); (try rw [if_neg c_37_4]); (try rw [if_neg c_51_5]); first | done | rfl)).symm dX3_rule_71
          · refine lv_aload_n hx hb dX3_rule_54 rfl (lv_at hl 0 rfl) ?_
            refine va_get (D := D) (ci := 3) (v := .ref (h 3)) (C := RX3) (T := TX3) (N := 26) hx hb hts hinX3 hown hK hP 0 rfl rfl 3 (by decide) (hts (.fieldLink RX3 16 "HoldUnlessModel" "unless" "[I") (by decide +kernel)) (fun _ h9 => h9) rfl dX3_rule_55 ?_
            refine lv_iload_n hx hb dX3_rule_58 rfl (lv_at hl 1 rfl) ?_
            refine va_iald hx hb hK hP 3 2 rfl rfl ((vp_ruleM c_5_1 hn)) dX3_rule_59 ?_
            refine lv_goto (tgt := 71) hx hb dX3_rule_60 (by decide) ?_
            exact ro_iret hx hb hr hS hlocks (show s_X3_rule n hd fi un on k what = (un k.toNatClampNeg) from by (unfold s_X3_rule; (try dsimp only); (try rw [if_neg c_5_1]); (try rw [if_neg c_17_2]); (try rw [if_neg c_23_3]); (try rw [if_neg c_37_4]); (try rw [if_pos c_51_5]); first | done | rfl)).symm dX3_rule_71
        · refine lv_aload_n hx hb dX3_rule_40 rfl (lv_at hl 0 rfl) ?_
          refine va_get (D := D) (ci := 3) (v := .ref (h 2)) (C := RX3) (T := TX3) (N := 26) hx hb hts hinX3 hown hK hP 0 rfl rfl 2 (by decide) (hts (.fieldLink RX3 13 "HoldUnlessModel" "ifs" "[I") (by decide +kernel)) (fun _ h9 => h9) rfl dX3_rule_41 ?_
          refine lv_iload_n hx hb dX3_rule_44 rfl (lv_at hl 1 rfl) ?_
          refine va_iald hx hb hK hP 2 1 rfl rfl ((vp_ruleM c_5_1 hn)) dX3_rule_45 ?_
          refine lv_goto (tgt := 71) hx hb dX3_rule_46 (by decide) ?_
          exact ro_iret hx hb hr hS hlocks (show s_X3_rule n hd fi un on k what = (fi k.toNatClampNeg) from by (unfold s_X3_rule; (try dsimp only); (try rw [if_neg c_5_1]); (try rw [if_neg c_17_2]); (try rw [if_neg c_23_3]); (try rw [if_pos c_37_4]); first | done | rfl)).symm dX3_rule_71
      · refine lv_aload_n hx hb dX3_rule_26 rfl (lv_at hl 0 rfl) ?_
        refine va_get (D := D) (ci := 3) (v := .ref (h 1)) (C := RX3) (T := TX3) (N := 26) hx hb hts hinX3 hown hK hP 0 rfl rfl 1 (by decide) (hts (.fieldLink RX3 7 "HoldUnlessModel" "head" "[I") (by decide +kernel)) (fun _ h9 => h9) rfl dX3_rule_27 ?_
        refine lv_iload_n hx hb dX3_rule_30 rfl (lv_at hl 1 rfl) ?_
        refine va_iald hx hb hK hP 1 0 rfl rfl ((vp_ruleM c_5_1 hn)) dX3_rule_31 ?_
        refine lv_goto (tgt := 71) hx hb dX3_rule_32 (by decide) ?_
        exact ro_iret hx hb hr hS hlocks (show s_X3_rule n hd fi un on k what = (hd k.toNatClampNeg) from by (unfold s_X3_rule; (try dsimp only); (try rw [if_neg c_5_1]); (try rw [if_neg c_17_2]); (try rw [if_pos c_23_3]); first | done | rfl)).symm dX3_rule_71
    · refine lv_iconst (v := (-1)) hx hb dX3_rule_20 (by decide) ?_
      exact ro_iret hx hb hr hS hlocks (show s_X3_rule n hd fi un on k what = (-1) from by (unfold s_X3_rule; (try dsimp only); (try rw [if_neg c_5_1]); (try rw [if_pos c_17_2]); first | done | rfl)).symm dX3_rule_21

def s_X3_turn (n : Nat) (on : Int32) (k : Int32) (v1 : Int32) : Int32 × Int32 := (if (s_X3_isRule n k) = 0 then ((-1), on) else (if (s_X3_in ((v1 : Int32).toInt64) 0 1) = 0 then ((-1), on) else (if v1 = 1 then (((on >>> (k &&& 31)) &&& 1), (on ||| (1 <<< (k &&& 31)))) else (((on >>> (k &&& 31)) &&& 1), (on &&& ((1 <<< (k &&& 31)) ^^^ (-1)))))))
set_option maxHeartbeats 4000000 in
set_option maxRecDepth 100000 in
theorem c_X3_turn (l : Launch) (D : va_G) (h : Nat → Nat) (cA : Nat → ClassId) (n : Nat) (hd : Nat → Int32) (fi : Nat → Int32) (un : Nat → Int32) (on : Int32) (may : Int32) (asd : Int32) (tx : Nat → Int32) (td : Int32) (kp : Nat → Int32) (ko : Nat → Int32) (ka : Nat → Int32) (tr : Int64) (pat : Int32) (pfr : Int32) (rhd : Nat → Int32) (rif : Nat → Int32) (rul : Nat → Int32) (prr : Int32) (prm : Int32) (rd : Nat → Int32) (bb : Nat → Int32) (nw : Nat → Int32) (ot : Nat → Int32) (ev : Nat → Int32) (od : Nat → Int32) (k : Int32) (v1 : Int32) (hn : n ≤ 10) (sz : Nat) : Met l yX3_turn wsX3_turn ({ frames := 2, cells := 0, slots := 0, locals := 46 }) (va_Pc [.ref (h 0), .int k, .int v1] (cPre D (tM h cA) (wM h cA (nI n) hd fi un on may asd tx td kp ko ka tr pat pfr rhd rif rul prr prm rd bb nw ot ev od) sz)) (va_Qi (fun (r : Int32) (u : Int32) => (r, u) = s_X3_turn n on k v1) (rwB D (fun u : Int32 => (wM h cA (nI n) hd fi un u may asd tx td kp ko ka tr pat pfr rhd rif rul prr prm rd bb nw ot ev od)) (va_A (wM h cA (nI n) hd fi un on may asd tx td kp ko ka tr pat pfr rhd rif rul prr prm rd bb nw ot ev od) sz)) (va_A (wM h cA (nI n) hd fi un on may asd tx td kp ko ka tr pat pfr rhd rif rul prr prm rd bb nw ot ev od) sz)) 0 0 (va_A (wM h cA (nI n) hd fi un on may asd tx td kp ko ka tr pat pfr rhd rif rul prr prm rd bb nw ot ev od) sz) := by
  refine Met.ofW (cc := cX3_turn) (maxL := 4) (ret := (some .int)) (by decide) rfl ?_
  intro p e s m args below meth c s₁ B hml hv
  obtain ⟨rfl, hsz, hP, hK, hD, hN⟩ := hv
  have hx := B.exec
  have hb := B.bytes
  have hr := B.returns
  have hts := atoms_spec (ws := wsX3_turn) B.pre
  have hown : s.vm.findClass RX3 = some m.cls := findClass_of_methodNamed B.named
  have hlocks := B.notSynchronized
  have hinX3 : ∀ w ∈ wsX30, w ∈ wsX3_turn := fun w h => List.mem_cons_of_mem _ (List.mem_append_right _ h)
  subst hsz
  replace hD := hD.self (sz := s.heap.size)
  generalize hAe : va_A (wM h cA (nI n) hd fi un on may asd tx td kp ko ka tr pat pfr rhd rif rul prr prm rd bb nw ot ev od) s.heap.size = A at hD ⊢
  have hA : ∀ q : Nat, s.heap.size ≤ q → A q := fun q h => by rw [← hAe]; exact Or.inr h
  have hS : va_S A s.heap s.heap [] := va_S.rf
  have hl := lv_entry ([.ref (h 0), .int k, .int v1]) (n := 4) (Nat.le_of_ble_eq_true rfl)
  rw [lg_entry_eq]
  generalize (lg_sl ([.ref (h 0), .int k, .int v1]) ++ List.replicate (4 - (lg_sl ([.ref (h 0), .int k, .int v1])).length) Slot.unset).toArray = ls at hl ⊢
  replace hl : lv_has ls 4 [(0, .ref (h 0)), (1, .int k), (2, .int v1)] := hl
  have hKe := hK.sub (tys' := []) [] rfl
  refine lv_aload_n hx hb dX3_turn_0 rfl (lv_at hl 0 rfl) ?_
  refine lv_iload_n hx hb dX3_turn_1 rfl (lv_at hl 1 rfl) ?_
  refine ro_i (D := D) (va_runV (As := [.int k]) (rest := []) ⟨hx, hb, hml, hown, hts⟩ (c_X3_isRule l D h cA n hd fi un on may asd tx td kp ko ka tr pat pfr rhd rif rul prr prm rd bb nw ot ev od k (by first | assumption | omega) _) (cwV 1 hts gX3_turn_X3_isRule rfl rfl rfl (by decide +kernel) ⟨Nat.le_of_ble_eq_true rfl, Nat.le_of_ble_eq_true rfl⟩) ⟨cPre.blind, va_recv hK hP (ci := 3) (q0 := 0) rfl rfl, cPre.mk hP hK hD hN⟩ rfl rfl hl.1 rfl (lv_room (Nat.le_of_ble_eq_true rfl)) dX3_turn_2 ⟨Nat.zero_le _, Nat.zero_le _⟩) hS hA (fun H locs hkp0 hS => ?_)
  replace hP := hkp0 _ hP
  refine lv_if_eq (tgt := 18) hx hb dX3_turn_5 (by decide) (fun c_5_1 => ?_) (fun c_5_1 => ?_)
  · refine lv_iconst (v := (-1)) hx hb dX3_turn_18 (by decide) ?_
    exact rw_iret hx hb hr hS hlocks on (show s_X3_turn n on k v1 = ((-1), on) from by (unfold s_X3_turn; (try dsimp only); (try rw [if_pos c_5_1]); first | done | rfl)).symm hP hD dX3_turn_19
  · refine lv_iload_n hx hb dX3_turn_8 rfl (lv_at hl 2 rfl) ?_
    refine lv_i2l hx hb dX3_turn_9 rfl ?_
    refine lv_lconst (v := 0) hx hb dX3_turn_10 (by decide) ?_
    refine lv_lconst (v := 1) hx hb dX3_turn_11 (by decide) ?_
    refine ro_i (D := D) (va_runS (As := [.long ((v1 : Int32).toInt64), .long 0, .long 1]) (rest := []) ⟨hx, hb, hml, hown, hts⟩ (c_X3_in l D ((v1 : Int32).toInt64) 0 1  _) (va_cwS 3 hts gX3_turn_X3_in rfl rfl rfl (by decide +kernel) ⟨Nat.le_of_ble_eq_true rfl, Nat.le_of_ble_eq_true rfl⟩) ⟨cPre.blind, cPre.mk vP0 hKe vD0 hN⟩ rfl rfl hl.1 rfl (lv_room (Nat.le_of_ble_eq_true rfl)) dX3_turn_12 ⟨Nat.zero_le _, Nat.zero_le _⟩) hS hA (fun H locs hkp0 hS => ?_)
    replace hP := hkp0 _ hP
    refine lv_if_ne (tgt := 20) hx hb dX3_turn_15 (by decide) (fun c_15_2 => ?_) (fun c_15_2 => ?_)
    · refine lv_aload_n hx hb dX3_turn_20 rfl (lv_at hl 0 rfl) ?_
      refine va_get (D := D) (ci := 3) (v := .int on) (C := RX3) (T := TX3) (N := 26) hx hb hts hinX3 hown hK hP 0 rfl rfl 4 (by decide) (hts (.fieldLink RX3 114 "HoldUnlessModel" "on" "I") (by decide +kernel)) (fun _ h9 => h9) rfl dX3_turn_21 ?_
      refine lv_iload_n hx hb dX3_turn_24 rfl (lv_at hl 1 rfl) ?_
      refine lv_ishr hx hb dX3_turn_25 ?_
      refine lv_iconst (v := 1) hx hb dX3_turn_26 (by decide) ?_
      refine lv_iand hx hb dX3_turn_27 ?_
      refine lv_istore_n (lv' := [(3, .int ((on >>> (k &&& 31)) &&& 1)), (0, .ref (h 0)), (1, .int k), (2, .int v1)]) hx hb dX3_turn_28 rfl hl (by decide) rfl (fun ls hl => ?_)
      refine lv_aload_n hx hb dX3_turn_29 rfl (lv_at hl 1 rfl) ?_
      refine lv_iload_n hx hb dX3_turn_30 rfl (lv_at hl 3 rfl) ?_
      refine lv_iconst (v := 1) hx hb dX3_turn_31 (by decide) ?_
      refine lv_icmp_ne (tgt := 46) hx hb dX3_turn_32 (by decide) (fun c_32_3 => ?_) (fun c_32_3 => ?_)
      · refine lv_aload_n hx hb dX3_turn_46 rfl (lv_at hl 1 rfl) ?_
        refine va_get (D := D) (ci := 3) (v := .int on) (C := RX3) (T := TX3) (N := 26) hx hb hts hinX3 hown hK hP 0 rfl rfl 4 (by decide) (hts (.fieldLink RX3 114 "HoldUnlessModel" "on" "I") (by decide +kernel)) (fun _ h9 => h9) rfl dX3_turn_47 ?_
        refine lv_iconst (v := 1) hx hb dX3_turn_50 (by decide) ?_
        refine lv_iload_n hx hb dX3_turn_51 rfl (lv_at hl 2 rfl) ?_
        refine lv_ishl hx hb dX3_turn_52 ?_
        refine lv_iconst (v := (-1)) hx hb dX3_turn_53 (by decide) ?_
        refine lv_ixor hx hb dX3_turn_54 ?_
        refine lv_iand hx hb dX3_turn_55 ?_
        refine va_put (D := D) (ci := 3) (v := .int (on &&& ((1 <<< (k &&& 31)) ^^^ (-1)))) (ty := .int) (C := RX3) (T := TX3) (N := 26) hx hb hts hinX3 tyX3 tyX3_ok nmX3 hown hK hP hD hS 0 rfl rfl 4 (by decide) (hts (.fieldLink RX3 114 "HoldUnlessModel" "on" "I") (by decide +kernel)) (fun _ h9 => h9) rfl (by decide +kernel) rfl rfl (Nat.le_of_ble_eq_true rfl) dX3_turn_56 (fun H locs hP hD hS => ?_)
        replace hP : va_P D vwCl (wM h cA (nI n) hd fi un (on &&& ((1 <<< (k &&& 31)) ^^^ (-1))) may asd tx td kp ko ka tr pat pfr rhd rif rul prr prm rd bb nw ot ev od) H := hP
        replace hD : va_D A (wM h cA (nI n) hd fi un (on &&& ((1 <<< (k &&& 31)) ^^^ (-1))) may asd tx td kp ko ka tr pat pfr rhd rif rul prr prm rd bb nw ot ev od) := hD
        refine lv_iload_n hx hb dX3_turn_59 rfl (lv_at hl 0 rfl) ?_
        exact rw_iret hx hb hr hS hlocks (on &&& ((1 <<< (k &&& 31)) ^^^ (-1))) (show s_X3_turn n on k v1 = (((on >>> (k &&& 31)) &&& 1), (on &&& ((1 <<< (k &&& 31)) ^^^ (-1)))) from by (unfold s_X3_turn; (try dsimp only); (try rw [if_neg c_5_1]); (try rw [if_neg c_15_2]); (try rw [if_neg c_32_3]); first | done | rfl)).symm hP hD dX3_turn_60
      · refine lv_aload_n hx hb dX3_turn_35 rfl (lv_at hl 1 rfl) ?_
        refine va_get (D := D) (ci := 3) (v := .int on) (C := RX3) (T := TX3) (N := 26) hx hb hts hinX3 hown hK hP 0 rfl rfl 4 (by decide) (hts (.fieldLink RX3 114 "HoldUnlessModel" "on" "I") (by decide +kernel)) (fun _ h9 => h9) rfl dX3_turn_36 ?_
        refine lv_iconst (v := 1) hx hb dX3_turn_39 (by decide) ?_
        refine lv_iload_n hx hb dX3_turn_40 rfl (lv_at hl 2 rfl) ?_
        refine lv_ishl hx hb dX3_turn_41 ?_
        refine lv_ior hx hb dX3_turn_42 ?_
        refine lv_goto (tgt := 56) hx hb dX3_turn_43 (by decide) ?_
        refine va_put (D := D) (ci := 3) (v := .int (on ||| (1 <<< (k &&& 31)))) (ty := .int) (C := RX3) (T := TX3) (N := 26) hx hb hts hinX3 tyX3 tyX3_ok nmX3 hown hK hP hD hS 0 rfl rfl 4 (by decide) (hts (.fieldLink RX3 114 "HoldUnlessModel" "on" "I") (by decide +kernel)) (fun _ h9 => h9) rfl (by decide +kernel) rfl rfl (Nat.le_of_ble_eq_true rfl) dX3_turn_56 (fun H locs hP hD hS => ?_)
        replace hP : va_P D vwCl (wM h cA (nI n) hd fi un (on ||| (1 <<< (k &&& 31))) may asd tx td kp ko ka tr pat pfr rhd rif rul prr prm rd bb nw ot ev od) H := hP
        replace hD : va_D A (wM h cA (nI n) hd fi un (on ||| (1 <<< (k &&& 31))) may asd tx td kp ko ka tr pat pfr rhd rif rul prr prm rd bb nw ot ev od) := hD
        refine lv_iload_n hx hb dX3_turn_59 rfl (lv_at hl 0 rfl) ?_
        exact rw_iret hx hb hr hS hlocks (on ||| (1 <<< (k &&& 31))) (show s_X3_turn n on k v1 = (((on >>> (k &&& 31)) &&& 1), (on ||| (1 <<< (k &&& 31)))) from by (unfold s_X3_turn; (try dsimp only); (try rw [if_neg c_5_1]); (try rw [if_neg c_15_2]); (try rw [if_pos c_32_3]); first | done | rfl)).symm hP hD dX3_turn_60
    · refine lv_iconst (v := (-1)) hx hb dX3_turn_18 (by decide) ?_
      exact rw_iret hx hb hr hS hlocks on (show s_X3_turn n on k v1 = ((-1), on) from by (unfold s_X3_turn; (try dsimp only); (try rw [if_neg c_5_1]); (try rw [if_pos c_15_2]); first | done | rfl)).symm hP hD dX3_turn_19

def s_X3_assume (asd : Int32) (a : Int32) (v1 : Int32) : Int32 × Int32 := (if (s_X3_in ((a : Int32).toInt64) 0 7) = 0 then ((-1), asd) else (if (s_X3_in ((v1 : Int32).toInt64) 0 1) = 0 then ((-1), asd) else (if v1 = 1 then (((asd >>> (a &&& 31)) &&& 1), (asd ||| (1 <<< (a &&& 31)))) else (((asd >>> (a &&& 31)) &&& 1), (asd &&& ((1 <<< (a &&& 31)) ^^^ (-1)))))))
set_option maxHeartbeats 4000000 in
set_option maxRecDepth 100000 in
theorem c_X3_assume (l : Launch) (D : va_G) (h : Nat → Nat) (cA : Nat → ClassId) (n : Nat) (hd : Nat → Int32) (fi : Nat → Int32) (un : Nat → Int32) (on : Int32) (may : Int32) (asd : Int32) (tx : Nat → Int32) (td : Int32) (kp : Nat → Int32) (ko : Nat → Int32) (ka : Nat → Int32) (tr : Int64) (pat : Int32) (pfr : Int32) (rhd : Nat → Int32) (rif : Nat → Int32) (rul : Nat → Int32) (prr : Int32) (prm : Int32) (rd : Nat → Int32) (bb : Nat → Int32) (nw : Nat → Int32) (ot : Nat → Int32) (ev : Nat → Int32) (od : Nat → Int32) (a : Int32) (v1 : Int32) (hn : n ≤ 10) (sz : Nat) : Met l yX3_assume wsX3_assume ({ frames := 1, cells := 0, slots := 0, locals := 25 }) (va_Pc [.ref (h 0), .int a, .int v1] (cPre D (tM h cA) (wM h cA (nI n) hd fi un on may asd tx td kp ko ka tr pat pfr rhd rif rul prr prm rd bb nw ot ev od) sz)) (va_Qi (fun (r : Int32) (u : Int32) => (r, u) = s_X3_assume asd a v1) (rwB D (fun u : Int32 => (wM h cA (nI n) hd fi un on may u tx td kp ko ka tr pat pfr rhd rif rul prr prm rd bb nw ot ev od)) (va_A (wM h cA (nI n) hd fi un on may asd tx td kp ko ka tr pat pfr rhd rif rul prr prm rd bb nw ot ev od) sz)) (va_A (wM h cA (nI n) hd fi un on may asd tx td kp ko ka tr pat pfr rhd rif rul prr prm rd bb nw ot ev od) sz)) 0 0 (va_A (wM h cA (nI n) hd fi un on may asd tx td kp ko ka tr pat pfr rhd rif rul prr prm rd bb nw ot ev od) sz) := by
  refine Met.ofW (cc := cX3_assume) (maxL := 4) (ret := (some .int)) (by decide) rfl ?_
  intro p e s m args below meth c s₁ B hml hv
  obtain ⟨rfl, hsz, hP, hK, hD, hN⟩ := hv
  have hx := B.exec
  have hb := B.bytes
  have hr := B.returns
  have hts := atoms_spec (ws := wsX3_assume) B.pre
  have hown : s.vm.findClass RX3 = some m.cls := findClass_of_methodNamed B.named
  have hlocks := B.notSynchronized
  have hinX3 : ∀ w ∈ wsX30, w ∈ wsX3_assume := fun w h => List.mem_cons_of_mem _ (List.mem_append_right _ h)
  subst hsz
  replace hD := hD.self (sz := s.heap.size)
  generalize hAe : va_A (wM h cA (nI n) hd fi un on may asd tx td kp ko ka tr pat pfr rhd rif rul prr prm rd bb nw ot ev od) s.heap.size = A at hD ⊢
  have hA : ∀ q : Nat, s.heap.size ≤ q → A q := fun q h => by rw [← hAe]; exact Or.inr h
  have hS : va_S A s.heap s.heap [] := va_S.rf
  have hl := lv_entry ([.ref (h 0), .int a, .int v1]) (n := 4) (Nat.le_of_ble_eq_true rfl)
  rw [lg_entry_eq]
  generalize (lg_sl ([.ref (h 0), .int a, .int v1]) ++ List.replicate (4 - (lg_sl ([.ref (h 0), .int a, .int v1])).length) Slot.unset).toArray = ls at hl ⊢
  replace hl : lv_has ls 4 [(0, .ref (h 0)), (1, .int a), (2, .int v1)] := hl
  have hKe := hK.sub (tys' := []) [] rfl
  refine lv_iload_n hx hb dX3_assume_0 rfl (lv_at hl 1 rfl) ?_
  refine lv_i2l hx hb dX3_assume_1 rfl ?_
  refine lv_lconst (v := 0) hx hb dX3_assume_2 (by decide) ?_
  refine lv_ldc2 (v := 7) hx hb hown (hts (.constantLong RX3 128 (7)) (by decide +kernel)) dX3_assume_3 ?_
  refine ro_i (D := D) (va_runS (As := [.long ((a : Int32).toInt64), .long 0, .long 7]) (rest := []) ⟨hx, hb, hml, hown, hts⟩ (c_X3_in l D ((a : Int32).toInt64) 0 7  _) (va_cwS 3 hts gX3_assume_X3_in rfl rfl rfl (by decide +kernel) ⟨Nat.le_of_ble_eq_true rfl, Nat.le_of_ble_eq_true rfl⟩) ⟨cPre.blind, cPre.mk vP0 hKe vD0 hN⟩ rfl rfl hl.1 rfl (lv_room (Nat.le_of_ble_eq_true rfl)) dX3_assume_6 ⟨Nat.zero_le _, Nat.zero_le _⟩) hS hA (fun H locs hkp0 hS => ?_)
  replace hP := hkp0 _ hP
  refine lv_if_eq (tgt := 22) hx hb dX3_assume_9 (by decide) (fun c_9_1 => ?_) (fun c_9_1 => ?_)
  · refine lv_iconst (v := (-1)) hx hb dX3_assume_22 (by decide) ?_
    exact rw_iret hx hb hr hS hlocks asd (show s_X3_assume asd a v1 = ((-1), asd) from by (unfold s_X3_assume; (try dsimp only); (try rw [if_pos c_9_1]); first | done | rfl)).symm hP hD dX3_assume_23
  · refine lv_iload_n hx hb dX3_assume_12 rfl (lv_at hl 2 rfl) ?_
    refine lv_i2l hx hb dX3_assume_13 rfl ?_
    refine lv_lconst (v := 0) hx hb dX3_assume_14 (by decide) ?_
    refine lv_lconst (v := 1) hx hb dX3_assume_15 (by decide) ?_
    refine ro_i (D := D) (va_runS (As := [.long ((v1 : Int32).toInt64), .long 0, .long 1]) (rest := []) ⟨hx, hb, hml, hown, hts⟩ (c_X3_in l D ((v1 : Int32).toInt64) 0 1  _) (va_cwS 3 hts gX3_assume_X3_in rfl rfl rfl (by decide +kernel) ⟨Nat.le_of_ble_eq_true rfl, Nat.le_of_ble_eq_true rfl⟩) ⟨cPre.blind, cPre.mk vP0 hKe vD0 hN⟩ rfl rfl hl.1 rfl (lv_room (Nat.le_of_ble_eq_true rfl)) dX3_assume_16 ⟨Nat.zero_le _, Nat.zero_le _⟩) hS hA (fun H locs hkp0 hS => ?_)
    replace hP := hkp0 _ hP
    refine lv_if_ne (tgt := 24) hx hb dX3_assume_19 (by decide) (fun c_19_2 => ?_) (fun c_19_2 => ?_)
    · refine lv_aload_n hx hb dX3_assume_24 rfl (lv_at hl 0 rfl) ?_
      refine va_get (D := D) (ci := 3) (v := .int asd) (C := RX3) (T := TX3) (N := 26) hx hb hts hinX3 hown hK hP 0 rfl rfl 6 (by decide) (hts (.fieldLink RX3 120 "HoldUnlessModel" "assumed" "I") (by decide +kernel)) (fun _ h9 => h9) rfl dX3_assume_25 ?_
      refine lv_iload_n hx hb dX3_assume_28 rfl (lv_at hl 1 rfl) ?_
      refine lv_ishr hx hb dX3_assume_29 ?_
      refine lv_iconst (v := 1) hx hb dX3_assume_30 (by decide) ?_
      refine lv_iand hx hb dX3_assume_31 ?_
      refine lv_istore_n (lv' := [(3, .int ((asd >>> (a &&& 31)) &&& 1)), (0, .ref (h 0)), (1, .int a), (2, .int v1)]) hx hb dX3_assume_32 rfl hl (by decide) rfl (fun ls hl => ?_)
      refine lv_aload_n hx hb dX3_assume_33 rfl (lv_at hl 1 rfl) ?_
      refine lv_iload_n hx hb dX3_assume_34 rfl (lv_at hl 3 rfl) ?_
      refine lv_iconst (v := 1) hx hb dX3_assume_35 (by decide) ?_
      refine lv_icmp_ne (tgt := 50) hx hb dX3_assume_36 (by decide) (fun c_36_3 => ?_) (fun c_36_3 => ?_)
      · refine lv_aload_n hx hb dX3_assume_50 rfl (lv_at hl 1 rfl) ?_
        refine va_get (D := D) (ci := 3) (v := .int asd) (C := RX3) (T := TX3) (N := 26) hx hb hts hinX3 hown hK hP 0 rfl rfl 6 (by decide) (hts (.fieldLink RX3 120 "HoldUnlessModel" "assumed" "I") (by decide +kernel)) (fun _ h9 => h9) rfl dX3_assume_51 ?_
        refine lv_iconst (v := 1) hx hb dX3_assume_54 (by decide) ?_
        refine lv_iload_n hx hb dX3_assume_55 rfl (lv_at hl 2 rfl) ?_
        refine lv_ishl hx hb dX3_assume_56 ?_
        refine lv_iconst (v := (-1)) hx hb dX3_assume_57 (by decide) ?_
        refine lv_ixor hx hb dX3_assume_58 ?_
        refine lv_iand hx hb dX3_assume_59 ?_
        refine va_put (D := D) (ci := 3) (v := .int (asd &&& ((1 <<< (a &&& 31)) ^^^ (-1)))) (ty := .int) (C := RX3) (T := TX3) (N := 26) hx hb hts hinX3 tyX3 tyX3_ok nmX3 hown hK hP hD hS 0 rfl rfl 6 (by decide) (hts (.fieldLink RX3 120 "HoldUnlessModel" "assumed" "I") (by decide +kernel)) (fun _ h9 => h9) rfl (by decide +kernel) rfl rfl (Nat.le_of_ble_eq_true rfl) dX3_assume_60 (fun H locs hP hD hS => ?_)
        replace hP : va_P D vwCl (wM h cA (nI n) hd fi un on may (asd &&& ((1 <<< (a &&& 31)) ^^^ (-1))) tx td kp ko ka tr pat pfr rhd rif rul prr prm rd bb nw ot ev od) H := hP
        replace hD : va_D A (wM h cA (nI n) hd fi un on may (asd &&& ((1 <<< (a &&& 31)) ^^^ (-1))) tx td kp ko ka tr pat pfr rhd rif rul prr prm rd bb nw ot ev od) := hD
        refine lv_iload_n hx hb dX3_assume_63 rfl (lv_at hl 0 rfl) ?_
        exact rw_iret hx hb hr hS hlocks (asd &&& ((1 <<< (a &&& 31)) ^^^ (-1))) (show s_X3_assume asd a v1 = (((asd >>> (a &&& 31)) &&& 1), (asd &&& ((1 <<< (a &&& 31)) ^^^ (-1)))) from by (unfold s_X3_assume; (try dsimp only); (try rw [if_neg c_9_1]); (try rw [if_neg c_19_2]); (try rw [if_neg c_36_3]); first | done | rfl)).symm hP hD dX3_assume_64
      · refine lv_aload_n hx hb dX3_assume_39 rfl (lv_at hl 1 rfl) ?_
        refine va_get (D := D) (ci := 3) (v := .int asd) (C := RX3) (T := TX3) (N := 26) hx hb hts hinX3 hown hK hP 0 rfl rfl 6 (by decide) (hts (.fieldLink RX3 120 "HoldUnlessModel" "assumed" "I") (by decide +kernel)) (fun _ h9 => h9) rfl dX3_assume_40 ?_
        refine lv_iconst (v := 1) hx hb dX3_assume_43 (by decide) ?_
        refine lv_iload_n hx hb dX3_assume_44 rfl (lv_at hl 2 rfl) ?_
        refine lv_ishl hx hb dX3_assume_45 ?_
        refine lv_ior hx hb dX3_assume_46 ?_
        refine lv_goto (tgt := 60) hx hb dX3_assume_47 (by decide) ?_
        refine va_put (D := D) (ci := 3) (v := .int (asd ||| (1 <<< (a &&& 31)))) (ty := .int) (C := RX3) (T := TX3) (N := 26) hx hb hts hinX3 tyX3 tyX3_ok nmX3 hown hK hP hD hS 0 rfl rfl 6 (by decide) (hts (.fieldLink RX3 120 "HoldUnlessModel" "assumed" "I") (by decide +kernel)) (fun _ h9 => h9) rfl (by decide +kernel) rfl rfl (Nat.le_of_ble_eq_true rfl) dX3_assume_60 (fun H locs hP hD hS => ?_)
        replace hP : va_P D vwCl (wM h cA (nI n) hd fi un on may (asd ||| (1 <<< (a &&& 31))) tx td kp ko ka tr pat pfr rhd rif rul prr prm rd bb nw ot ev od) H := hP
        replace hD : va_D A (wM h cA (nI n) hd fi un on may (asd ||| (1 <<< (a &&& 31))) tx td kp ko ka tr pat pfr rhd rif rul prr prm rd bb nw ot ev od) := hD
        refine lv_iload_n hx hb dX3_assume_63 rfl (lv_at hl 0 rfl) ?_
        exact rw_iret hx hb hr hS hlocks (asd ||| (1 <<< (a &&& 31))) (show s_X3_assume asd a v1 = (((asd >>> (a &&& 31)) &&& 1), (asd ||| (1 <<< (a &&& 31)))) from by (unfold s_X3_assume; (try dsimp only); (try rw [if_neg c_9_1]); (try rw [if_neg c_19_2]); (try rw [if_pos c_36_3]); first | done | rfl)).symm hP hD dX3_assume_64
    · refine lv_iconst (v := (-1)) hx hb dX3_assume_22 (by decide) ?_
      exact rw_iret hx hb hr hS hlocks asd (show s_X3_assume asd a v1 = ((-1), asd) from by (unfold s_X3_assume; (try dsimp only); (try rw [if_neg c_9_1]); (try rw [if_pos c_19_2]); first | done | rfl)).symm hP hD dX3_assume_23

def s_X3_keep (on : Int32) (asd : Int32) (kp : Nat → Int32) (ko : Nat → Int32) (ka : Nat → Int32) (image : Int32) : Int32 × (Nat → Int32) × (Nat → Int32) × (Nat → Int32) := (if (s_X3_in ((image : Int32).toInt64) 0 1) = 0 then ((-1), kp, ko, ka) else ((s_X3_ones on), (upd kp image.toNatClampNeg (vp_nar .boolean 1)), (upd ko image.toNatClampNeg on), (upd ka image.toNatClampNeg asd)))
set_option maxHeartbeats 4000000 in
set_option maxRecDepth 100000 in
theorem c_X3_keep (l : Launch) (D : va_G) (h : Nat → Nat) (cA : Nat → ClassId) (n : Nat) (hd : Nat → Int32) (fi : Nat → Int32) (un : Nat → Int32) (on : Int32) (may : Int32) (asd : Int32) (tx : Nat → Int32) (td : Int32) (kp : Nat → Int32) (ko : Nat → Int32) (ka : Nat → Int32) (tr : Int64) (pat : Int32) (pfr : Int32) (rhd : Nat → Int32) (rif : Nat → Int32) (rul : Nat → Int32) (prr : Int32) (prm : Int32) (rd : Nat → Int32) (bb : Nat → Int32) (nw : Nat → Int32) (ot : Nat → Int32) (ev : Nat → Int32) (od : Nat → Int32) (image : Int32) (hn : n ≤ 10) (sz : Nat) : Met l yX3_keep wsX3_keep ({ frames := 1, cells := 0, slots := 0, locals := 25 }) (va_Pc [.ref (h 0), .int image] (cPre D (tM h cA) (wM h cA (nI n) hd fi un on may asd tx td kp ko ka tr pat pfr rhd rif rul prr prm rd bb nw ot ev od) sz)) (va_Qi (fun (r : Int32) (u : (Nat → Int32) × (Nat → Int32) × (Nat → Int32)) => (r, u.1, u.2.1, u.2.2) = s_X3_keep on asd kp ko ka image) (rwB D (fun u : (Nat → Int32) × (Nat → Int32) × (Nat → Int32) => (wM h cA (nI n) hd fi un on may asd tx td u.1 u.2.1 u.2.2 tr pat pfr rhd rif rul prr prm rd bb nw ot ev od)) (va_A (wM h cA (nI n) hd fi un on may asd tx td kp ko ka tr pat pfr rhd rif rul prr prm rd bb nw ot ev od) sz)) (va_A (wM h cA (nI n) hd fi un on may asd tx td kp ko ka tr pat pfr rhd rif rul prr prm rd bb nw ot ev od) sz)) 0 0 (va_A (wM h cA (nI n) hd fi un on may asd tx td kp ko ka tr pat pfr rhd rif rul prr prm rd bb nw ot ev od) sz) := by
  refine Met.ofW (cc := cX3_keep) (maxL := 2) (ret := (some .int)) (by decide) rfl ?_
  intro p e s m args below meth c s₁ B hml hv
  obtain ⟨rfl, hsz, hP, hK, hD, hN⟩ := hv
  have hx := B.exec
  have hb := B.bytes
  have hr := B.returns
  have hts := atoms_spec (ws := wsX3_keep) B.pre
  have hown : s.vm.findClass RX3 = some m.cls := findClass_of_methodNamed B.named
  have hlocks := B.notSynchronized
  have hinX3 : ∀ w ∈ wsX30, w ∈ wsX3_keep := fun w h => List.mem_cons_of_mem _ (List.mem_append_right _ h)
  subst hsz
  replace hD := hD.self (sz := s.heap.size)
  generalize hAe : va_A (wM h cA (nI n) hd fi un on may asd tx td kp ko ka tr pat pfr rhd rif rul prr prm rd bb nw ot ev od) s.heap.size = A at hD ⊢
  have hA : ∀ q : Nat, s.heap.size ≤ q → A q := fun q h => by rw [← hAe]; exact Or.inr h
  have hS : va_S A s.heap s.heap [] := va_S.rf
  have hl := lv_entry ([.ref (h 0), .int image]) (n := 2) (Nat.le_of_ble_eq_true rfl)
  rw [lg_entry_eq]
  generalize (lg_sl ([.ref (h 0), .int image]) ++ List.replicate (2 - (lg_sl ([.ref (h 0), .int image])).length) Slot.unset).toArray = ls at hl ⊢
  replace hl : lv_has ls 2 [(0, .ref (h 0)), (1, .int image)] := hl
  have hKe := hK.sub (tys' := []) [] rfl
  refine lv_iload_n hx hb dX3_keep_0 rfl (lv_at hl 1 rfl) ?_
  refine lv_i2l hx hb dX3_keep_1 rfl ?_
  refine lv_lconst (v := 0) hx hb dX3_keep_2 (by decide) ?_
  refine lv_lconst (v := 1) hx hb dX3_keep_3 (by decide) ?_
  refine ro_i (D := D) (va_runS (As := [.long ((image : Int32).toInt64), .long 0, .long 1]) (rest := []) ⟨hx, hb, hml, hown, hts⟩ (c_X3_in l D ((image : Int32).toInt64) 0 1  _) (va_cwS 3 hts gX3_keep_X3_in rfl rfl rfl (by decide +kernel) ⟨Nat.le_of_ble_eq_true rfl, Nat.le_of_ble_eq_true rfl⟩) ⟨cPre.blind, cPre.mk vP0 hKe vD0 hN⟩ rfl rfl hl.1 rfl (lv_room (Nat.le_of_ble_eq_true rfl)) dX3_keep_4 ⟨Nat.zero_le _, Nat.zero_le _⟩) hS hA (fun H locs hkp0 hS => ?_)
  replace hP := hkp0 _ hP
  refine lv_if_ne (tgt := 12) hx hb dX3_keep_7 (by decide) (fun c_7_1 => ?_) (fun c_7_1 => ?_)
  · refine lv_aload_n hx hb dX3_keep_12 rfl (lv_at hl 0 rfl) ?_
    refine va_get (D := D) (ci := 3) (v := .ref (h 5)) (C := RX3) (T := TX3) (N := 26) hx hb hts hinX3 hown hK hP 0 rfl rfl 9 (by decide) (hts (.fieldLink RX3 22 "HoldUnlessModel" "isKept" "[Z") (by decide +kernel)) (fun _ h9 => h9) rfl dX3_keep_13 ?_
    refine lv_iload_n hx hb dX3_keep_16 rfl (lv_at hl 1 rfl) ?_
    refine lv_iconst (v := 1) hx hb dX3_keep_17 (by decide) ?_
    refine va_zast hx hb hK hP hD hS 5 4 rfl rfl ((vp_inM (by decide) c_7_1)) dX3_keep_18 (fun H locs hP hD hS => ?_)
    replace hP : va_P D vwCl (wM h cA (nI n) hd fi un on may asd tx td (upd kp image.toNatClampNeg (vp_nar .boolean 1)) ko ka tr pat pfr rhd rif rul prr prm rd bb nw ot ev od) H := hP
    replace hD : va_D A (wM h cA (nI n) hd fi un on may asd tx td (upd kp image.toNatClampNeg (vp_nar .boolean 1)) ko ka tr pat pfr rhd rif rul prr prm rd bb nw ot ev od) := hD
    refine lv_aload_n hx hb dX3_keep_19 rfl (lv_at hl 0 rfl) ?_
    refine va_get (D := D) (ci := 3) (v := .ref (h 6)) (C := RX3) (T := TX3) (N := 26) hx hb hts hinX3 hown hK hP 0 rfl rfl 10 (by decide) (hts (.fieldLink RX3 26 "HoldUnlessModel" "keptOn" "[I") (by decide +kernel)) (fun _ h9 => h9) rfl dX3_keep_20 ?_
    refine lv_iload_n hx hb dX3_keep_23 rfl (lv_at hl 1 rfl) ?_
    refine lv_aload_n hx hb dX3_keep_24 rfl (lv_at hl 0 rfl) ?_
    refine va_get (D := D) (ci := 3) (v := .int on) (C := RX3) (T := TX3) (N := 26) hx hb hts hinX3 hown hK hP 0 rfl rfl 4 (by decide) (hts (.fieldLink RX3 114 "HoldUnlessModel" "on" "I") (by decide +kernel)) (fun _ h9 => h9) rfl dX3_keep_25 ?_
    refine va_iast hx hb hK hP hD hS 6 5 rfl rfl ((vp_inM (by decide) c_7_1)) dX3_keep_28 (fun H locs hP hD hS => ?_)
    replace hP : va_P D vwCl (wM h cA (nI n) hd fi un on may asd tx td (upd kp image.toNatClampNeg (vp_nar .boolean 1)) (upd ko image.toNatClampNeg on) ka tr pat pfr rhd rif rul prr prm rd bb nw ot ev od) H := hP
    replace hD : va_D A (wM h cA (nI n) hd fi un on may asd tx td (upd kp image.toNatClampNeg (vp_nar .boolean 1)) (upd ko image.toNatClampNeg on) ka tr pat pfr rhd rif rul prr prm rd bb nw ot ev od) := hD
    refine lv_aload_n hx hb dX3_keep_29 rfl (lv_at hl 0 rfl) ?_
    refine va_get (D := D) (ci := 3) (v := .ref (h 7)) (C := RX3) (T := TX3) (N := 26) hx hb hts hinX3 hown hK hP 0 rfl rfl 11 (by decide) (hts (.fieldLink RX3 29 "HoldUnlessModel" "keptAssumed" "[I") (by decide +kernel)) (fun _ h9 => h9) rfl dX3_keep_30 ?_
    refine lv_iload_n hx hb dX3_keep_33 rfl (lv_at hl 1 rfl) ?_
    refine lv_aload_n hx hb dX3_keep_34 rfl (lv_at hl 0 rfl) ?_
    refine va_get (D := D) (ci := 3) (v := .int asd) (C := RX3) (T := TX3) (N := 26) hx hb hts hinX3 hown hK hP 0 rfl rfl 6 (by decide) (hts (.fieldLink RX3 120 "HoldUnlessModel" "assumed" "I") (by decide +kernel)) (fun _ h9 => h9) rfl dX3_keep_35 ?_
    refine va_iast hx hb hK hP hD hS 7 6 rfl rfl ((vp_inM (by decide) c_7_1)) dX3_keep_38 (fun H locs hP hD hS => ?_)
    replace hP : va_P D vwCl (wM h cA (nI n) hd fi un on may asd tx td (upd kp image.toNatClampNeg (vp_nar .boolean 1)) (upd ko image.toNatClampNeg on) (upd ka image.toNatClampNeg asd) tr pat pfr rhd rif rul prr prm rd bb nw ot ev od) H := hP
    replace hD : va_D A (wM h cA (nI n) hd fi un on may asd tx td (upd kp image.toNatClampNeg (vp_nar .boolean 1)) (upd ko image.toNatClampNeg on) (upd ka image.toNatClampNeg asd) tr pat pfr rhd rif rul prr prm rd bb nw ot ev od) := hD
    refine lv_aload_n hx hb dX3_keep_39 rfl (lv_at hl 0 rfl) ?_
    refine va_get (D := D) (ci := 3) (v := .int on) (C := RX3) (T := TX3) (N := 26) hx hb hts hinX3 hown hK hP 0 rfl rfl 4 (by decide) (hts (.fieldLink RX3 114 "HoldUnlessModel" "on" "I") (by decide +kernel)) (fun _ h9 => h9) rfl dX3_keep_40 ?_
    refine ro_i (D := D) (va_runS (As := [.int on]) (rest := []) ⟨hx, hb, hml, hown, hts⟩ (c_X3_ones l D on  _) (va_cwS 1 hts gX3_keep_X3_ones rfl rfl rfl (by decide +kernel) ⟨Nat.le_of_ble_eq_true rfl, Nat.le_of_ble_eq_true rfl⟩) ⟨cPre.blind, cPre.mk vP0 hKe vD0 hN⟩ rfl rfl hl.1 rfl (lv_room (Nat.le_of_ble_eq_true rfl)) dX3_keep_43 ⟨Nat.zero_le _, Nat.zero_le _⟩) hS hA (fun H locs hkp0 hS => ?_)
    replace hP := hkp0 _ hP
    exact rw_iret hx hb hr hS hlocks ((upd kp image.toNatClampNeg (vp_nar .boolean 1)), (upd ko image.toNatClampNeg on), (upd ka image.toNatClampNeg asd)) (show s_X3_keep on asd kp ko ka image = ((s_X3_ones on), (upd kp image.toNatClampNeg (vp_nar .boolean 1)), (upd ko image.toNatClampNeg on), (upd ka image.toNatClampNeg asd)) from by (unfold s_X3_keep; (try dsimp only); (try rw [if_neg c_7_1]); first | done | rfl)).symm hP hD dX3_keep_46
  · refine lv_iconst (v := (-1)) hx hb dX3_keep_10 (by decide) ?_
    exact rw_iret hx hb hr hS hlocks (kp, ko, ka) (show s_X3_keep on asd kp ko ka image = ((-1), kp, ko, ka) from by (unfold s_X3_keep; (try dsimp only); (try rw [if_pos c_7_1]); first | done | rfl)).symm hP hD dX3_keep_11

def s_X3_back (on : Int32) (asd : Int32) (kp : Nat → Int32) (ko : Nat → Int32) (ka : Nat → Int32) (image : Int32) : Int32 × Int32 × Int32 := (if (s_X3_in ((image : Int32).toInt64) 0 1) = 0 then ((-1), on, asd) else (if (kp image.toNatClampNeg) = 0 then ((-2), on, asd) else ((s_X3_ones (ko image.toNatClampNeg)), (ko image.toNatClampNeg), (ka image.toNatClampNeg))))
set_option maxHeartbeats 4000000 in
set_option maxRecDepth 100000 in
theorem c_X3_back (l : Launch) (D : va_G) (h : Nat → Nat) (cA : Nat → ClassId) (n : Nat) (hd : Nat → Int32) (fi : Nat → Int32) (un : Nat → Int32) (on : Int32) (may : Int32) (asd : Int32) (tx : Nat → Int32) (td : Int32) (kp : Nat → Int32) (ko : Nat → Int32) (ka : Nat → Int32) (tr : Int64) (pat : Int32) (pfr : Int32) (rhd : Nat → Int32) (rif : Nat → Int32) (rul : Nat → Int32) (prr : Int32) (prm : Int32) (rd : Nat → Int32) (bb : Nat → Int32) (nw : Nat → Int32) (ot : Nat → Int32) (ev : Nat → Int32) (od : Nat → Int32) (image : Int32) (hn : n ≤ 10) (sz : Nat) : Met l yX3_back wsX3_back ({ frames := 1, cells := 0, slots := 0, locals := 25 }) (va_Pc [.ref (h 0), .int image] (cPre D (tM h cA) (wM h cA (nI n) hd fi un on may asd tx td kp ko ka tr pat pfr rhd rif rul prr prm rd bb nw ot ev od) sz)) (va_Qi (fun (r : Int32) (u : Int32 × Int32) => (r, u.1, u.2) = s_X3_back on asd kp ko ka image) (rwB D (fun u : Int32 × Int32 => (wM h cA (nI n) hd fi un u.1 may u.2 tx td kp ko ka tr pat pfr rhd rif rul prr prm rd bb nw ot ev od)) (va_A (wM h cA (nI n) hd fi un on may asd tx td kp ko ka tr pat pfr rhd rif rul prr prm rd bb nw ot ev od) sz)) (va_A (wM h cA (nI n) hd fi un on may asd tx td kp ko ka tr pat pfr rhd rif rul prr prm rd bb nw ot ev od) sz)) 0 0 (va_A (wM h cA (nI n) hd fi un on may asd tx td kp ko ka tr pat pfr rhd rif rul prr prm rd bb nw ot ev od) sz) := by
  refine Met.ofW (cc := cX3_back) (maxL := 2) (ret := (some .int)) (by decide) rfl ?_
  intro p e s m args below meth c s₁ B hml hv
  obtain ⟨rfl, hsz, hP, hK, hD, hN⟩ := hv
  have hx := B.exec
  have hb := B.bytes
  have hr := B.returns
  have hts := atoms_spec (ws := wsX3_back) B.pre
  have hown : s.vm.findClass RX3 = some m.cls := findClass_of_methodNamed B.named
  have hlocks := B.notSynchronized
  have hinX3 : ∀ w ∈ wsX30, w ∈ wsX3_back := fun w h => List.mem_cons_of_mem _ (List.mem_append_right _ h)
  subst hsz
  replace hD := hD.self (sz := s.heap.size)
  generalize hAe : va_A (wM h cA (nI n) hd fi un on may asd tx td kp ko ka tr pat pfr rhd rif rul prr prm rd bb nw ot ev od) s.heap.size = A at hD ⊢
  have hA : ∀ q : Nat, s.heap.size ≤ q → A q := fun q h => by rw [← hAe]; exact Or.inr h
  have hS : va_S A s.heap s.heap [] := va_S.rf
  have hl := lv_entry ([.ref (h 0), .int image]) (n := 2) (Nat.le_of_ble_eq_true rfl)
  rw [lg_entry_eq]
  generalize (lg_sl ([.ref (h 0), .int image]) ++ List.replicate (2 - (lg_sl ([.ref (h 0), .int image])).length) Slot.unset).toArray = ls at hl ⊢
  replace hl : lv_has ls 2 [(0, .ref (h 0)), (1, .int image)] := hl
  have hKe := hK.sub (tys' := []) [] rfl
  refine lv_iload_n hx hb dX3_back_0 rfl (lv_at hl 1 rfl) ?_
  refine lv_i2l hx hb dX3_back_1 rfl ?_
  refine lv_lconst (v := 0) hx hb dX3_back_2 (by decide) ?_
  refine lv_lconst (v := 1) hx hb dX3_back_3 (by decide) ?_
  refine ro_i (D := D) (va_runS (As := [.long ((image : Int32).toInt64), .long 0, .long 1]) (rest := []) ⟨hx, hb, hml, hown, hts⟩ (c_X3_in l D ((image : Int32).toInt64) 0 1  _) (va_cwS 3 hts gX3_back_X3_in rfl rfl rfl (by decide +kernel) ⟨Nat.le_of_ble_eq_true rfl, Nat.le_of_ble_eq_true rfl⟩) ⟨cPre.blind, cPre.mk vP0 hKe vD0 hN⟩ rfl rfl hl.1 rfl (lv_room (Nat.le_of_ble_eq_true rfl)) dX3_back_4 ⟨Nat.zero_le _, Nat.zero_le _⟩) hS hA (fun H locs hkp0 hS => ?_)
  replace hP := hkp0 _ hP
  refine lv_if_ne (tgt := 12) hx hb dX3_back_7 (by decide) (fun c_7_1 => ?_) (fun c_7_1 => ?_)
  · refine lv_aload_n hx hb dX3_back_12 rfl (lv_at hl 0 rfl) ?_
    refine va_get (D := D) (ci := 3) (v := .ref (h 5)) (C := RX3) (T := TX3) (N := 26) hx hb hts hinX3 hown hK hP 0 rfl rfl 9 (by decide) (hts (.fieldLink RX3 22 "HoldUnlessModel" "isKept" "[Z") (by decide +kernel)) (fun _ h9 => h9) rfl dX3_back_13 ?_
    refine lv_iload_n hx hb dX3_back_16 rfl (lv_at hl 1 rfl) ?_
    refine va_zald hx hb hK hP 5 4 rfl rfl ((vp_inM (by decide) c_7_1)) dX3_back_17 ?_
    refine lv_if_ne (tgt := 24) hx hb dX3_back_18 (by decide) (fun c_18_2 => ?_) (fun c_18_2 => ?_)
    · refine lv_aload_n hx hb dX3_back_24 rfl (lv_at hl 0 rfl) ?_
      refine lv_aload_n hx hb dX3_back_25 rfl (lv_at hl 0 rfl) ?_
      refine va_get (D := D) (ci := 3) (v := .ref (h 6)) (C := RX3) (T := TX3) (N := 26) hx hb hts hinX3 hown hK hP 0 rfl rfl 10 (by decide) (hts (.fieldLink RX3 26 "HoldUnlessModel" "keptOn" "[I") (by decide +kernel)) (fun _ h9 => h9) rfl dX3_back_26 ?_
      refine lv_iload_n hx hb dX3_back_29 rfl (lv_at hl 1 rfl) ?_
      refine va_iald hx hb hK hP 6 5 rfl rfl ((vp_inM (by decide) c_7_1)) dX3_back_30 ?_
      refine va_put (D := D) (ci := 3) (v := .int (ko image.toNatClampNeg)) (ty := .int) (C := RX3) (T := TX3) (N := 26) hx hb hts hinX3 tyX3 tyX3_ok nmX3 hown hK hP hD hS 0 rfl rfl 4 (by decide) (hts (.fieldLink RX3 114 "HoldUnlessModel" "on" "I") (by decide +kernel)) (fun _ h9 => h9) rfl (by decide +kernel) rfl rfl (Nat.le_of_ble_eq_true rfl) dX3_back_31 (fun H locs hP hD hS => ?_)
      replace hP : va_P D vwCl (wM h cA (nI n) hd fi un (ko image.toNatClampNeg) may asd tx td kp ko ka tr pat pfr rhd rif rul prr prm rd bb nw ot ev od) H := hP
      replace hD : va_D A (wM h cA (nI n) hd fi un (ko image.toNatClampNeg) may asd tx td kp ko ka tr pat pfr rhd rif rul prr prm rd bb nw ot ev od) := hD
      refine lv_aload_n hx hb dX3_back_34 rfl (lv_at hl 0 rfl) ?_
      refine lv_aload_n hx hb dX3_back_35 rfl (lv_at hl 0 rfl) ?_
      refine va_get (D := D) (ci := 3) (v := .ref (h 7)) (C := RX3) (T := TX3) (N := 26) hx hb hts hinX3 hown hK hP 0 rfl rfl 11 (by decide) (hts (.fieldLink RX3 29 "HoldUnlessModel" "keptAssumed" "[I") (by decide +kernel)) (fun _ h9 => h9) rfl dX3_back_36 ?_
      refine lv_iload_n hx hb dX3_back_39 rfl (lv_at hl 1 rfl) ?_
      refine va_iald hx hb hK hP 7 6 rfl rfl ((vp_inM (by decide) c_7_1)) dX3_back_40 ?_
      refine va_put (D := D) (ci := 3) (v := .int (ka image.toNatClampNeg)) (ty := .int) (C := RX3) (T := TX3) (N := 26) hx hb hts hinX3 tyX3 tyX3_ok nmX3 hown hK hP hD hS 0 rfl rfl 6 (by decide) (hts (.fieldLink RX3 120 "HoldUnlessModel" "assumed" "I") (by decide +kernel)) (fun _ h9 => h9) rfl (by decide +kernel) rfl rfl (Nat.le_of_ble_eq_true rfl) dX3_back_41 (fun H locs hP hD hS => ?_)
      replace hP : va_P D vwCl (wM h cA (nI n) hd fi un (ko image.toNatClampNeg) may (ka image.toNatClampNeg) tx td kp ko ka tr pat pfr rhd rif rul prr prm rd bb nw ot ev od) H := hP
      replace hD : va_D A (wM h cA (nI n) hd fi un (ko image.toNatClampNeg) may (ka image.toNatClampNeg) tx td kp ko ka tr pat pfr rhd rif rul prr prm rd bb nw ot ev od) := hD
      refine lv_aload_n hx hb dX3_back_44 rfl (lv_at hl 0 rfl) ?_
      refine va_get (D := D) (ci := 3) (v := .int (ko image.toNatClampNeg)) (C := RX3) (T := TX3) (N := 26) hx hb hts hinX3 hown hK hP 0 rfl rfl 4 (by decide) (hts (.fieldLink RX3 114 "HoldUnlessModel" "on" "I") (by decide +kernel)) (fun _ h9 => h9) rfl dX3_back_45 ?_
      refine ro_i (D := D) (va_runS (As := [.int (ko image.toNatClampNeg)]) (rest := []) ⟨hx, hb, hml, hown, hts⟩ (c_X3_ones l D (ko image.toNatClampNeg)  _) (va_cwS 1 hts gX3_back_X3_ones rfl rfl rfl (by decide +kernel) ⟨Nat.le_of_ble_eq_true rfl, Nat.le_of_ble_eq_true rfl⟩) ⟨cPre.blind, cPre.mk vP0 hKe vD0 hN⟩ rfl rfl hl.1 rfl (lv_room (Nat.le_of_ble_eq_true rfl)) dX3_back_48 ⟨Nat.zero_le _, Nat.zero_le _⟩) hS hA (fun H locs hkp0 hS => ?_)
      replace hP := hkp0 _ hP
      exact rw_iret hx hb hr hS hlocks ((ko image.toNatClampNeg), (ka image.toNatClampNeg)) (show s_X3_back on asd kp ko ka image = ((s_X3_ones (ko image.toNatClampNeg)), (ko image.toNatClampNeg), (ka image.toNatClampNeg)) from by (unfold s_X3_back; (try dsimp only); (try rw [if_neg c_7_1]); (try rw [if_neg c_18_2]); first | done | rfl)).symm hP hD dX3_back_51
    · refine lv_bipush (v := (-2)) hx hb dX3_back_21 (by decide) ?_
      exact rw_iret hx hb hr hS hlocks (on, asd) (show s_X3_back on asd kp ko ka image = ((-2), on, asd) from by (unfold s_X3_back; (try dsimp only); (try rw [if_neg c_7_1]); (try rw [if_pos c_18_2]); first | done | rfl)).symm hP hD dX3_back_23
  · refine lv_iconst (v := (-1)) hx hb dX3_back_10 (by decide) ?_
    exact rw_iret hx hb hr hS hlocks (on, asd) (show s_X3_back on asd kp ko ka image = ((-1), on, asd) from by (unfold s_X3_back; (try dsimp only); (try rw [if_pos c_7_1]); first | done | rfl)).symm hP hD dX3_back_11

def s_X3_count (n : Nat) (on : Int32) (may : Int32) (asd : Int32) (td : Int32) (what : Int32) : Int32 := (if what = 0 then (nI n) else (if what = 1 then (s_X3_ones on) else (if what = 2 then may else (if what = 3 then asd else (if what = 4 then td else (-1))))))
set_option maxHeartbeats 4000000 in
set_option maxRecDepth 100000 in
theorem c_X3_count (l : Launch) (D : va_G) (h : Nat → Nat) (cA : Nat → ClassId) (n : Nat) (hd : Nat → Int32) (fi : Nat → Int32) (un : Nat → Int32) (on : Int32) (may : Int32) (asd : Int32) (tx : Nat → Int32) (td : Int32) (kp : Nat → Int32) (ko : Nat → Int32) (ka : Nat → Int32) (tr : Int64) (pat : Int32) (pfr : Int32) (rhd : Nat → Int32) (rif : Nat → Int32) (rul : Nat → Int32) (prr : Int32) (prm : Int32) (rd : Nat → Int32) (bb : Nat → Int32) (nw : Nat → Int32) (ot : Nat → Int32) (ev : Nat → Int32) (od : Nat → Int32) (what : Int32) (hn : n ≤ 10) (sz : Nat) : Met l yX3_count wsX3_count ({ frames := 1, cells := 0, slots := 0, locals := 22 }) (va_Pc [.ref (h 0), .int what] (cPre D (tM h cA) (wM h cA (nI n) hd fi un on may asd tx td kp ko ka tr pat pfr rhd rif rul prr prm rd bb nw ot ev od) sz)) (va_Qi (fun r (_ : Unit) => r = s_X3_count n on may asd td what) (fun _ _ => True) (fun q => sz ≤ q)) 0 0 (fun q => sz ≤ q) := by
  refine Met.ofW (cc := cX3_count) (maxL := 2) (ret := (some .int)) (by decide) rfl ?_
  intro p e s m args below meth c s₁ B hml hv
  obtain ⟨rfl, hsz, hP, hK, hD, hN⟩ := hv
  have hx := B.exec
  have hb := B.bytes
  have hr := B.returns
  have hts := atoms_spec (ws := wsX3_count) B.pre
  have hown : s.vm.findClass RX3 = some m.cls := findClass_of_methodNamed B.named
  have hlocks := B.notSynchronized
  have hinX3 : ∀ w ∈ wsX30, w ∈ wsX3_count := fun w h => List.mem_cons_of_mem _ (List.mem_append_right _ h)
  subst hsz
  obtain ⟨A, hAe⟩ : ∃ A : Nat → Prop, A = (fun q : Nat => s.heap.size ≤ q) := ⟨_, rfl⟩
  have hA : ∀ q : Nat, s.heap.size ≤ q → A q := fun q h => by rw [hAe]; exact h
  have hS : va_S A s.heap s.heap [] := va_S.rf
  subst hAe
  have hl := lv_entry ([.ref (h 0), .int what]) (n := 2) (Nat.le_of_ble_eq_true rfl)
  rw [lg_entry_eq]
  generalize (lg_sl ([.ref (h 0), .int what]) ++ List.replicate (2 - (lg_sl ([.ref (h 0), .int what])).length) Slot.unset).toArray = ls at hl ⊢
  replace hl : lv_has ls 2 [(0, .ref (h 0)), (1, .int what)] := hl
  have hKe := hK.sub (tys' := []) [] rfl
  refine lv_iload_n hx hb dX3_count_0 rfl (lv_at hl 1 rfl) ?_
  by_cases k_1_1 : what = 0
  · refine lv_tableIn (tgt := 36) hx hb dX3_count_1 (by rw [k_1_1]; decide) (by rw [k_1_1]; decide) (by rw [k_1_1]; rfl) (by decide) ?_
    refine lv_aload_n hx hb dX3_count_36 rfl (lv_at hl 0 rfl) ?_
    refine va_get (D := D) (ci := 3) (v := .int (nI n)) (C := RX3) (T := TX3) (N := 26) hx hb hts hinX3 hown hK hP 0 rfl rfl 0 (by decide) (hts (.fieldLink RX3 59 "HoldUnlessModel" "rules" "I") (by decide +kernel)) (fun _ h9 => h9) rfl dX3_count_37 ?_
    exact ro_iret hx hb hr hS hlocks (show s_X3_count n on may asd td what = (nI n) from by (unfold s_X3_count; (try dsimp only); (try rw [if_pos k_1_1]); first | done | rfl)).symm dX3_count_40
  · by_cases k_1_2 : what = 1
    · refine lv_tableIn (tgt := 41) hx hb dX3_count_1 (by rw [k_1_2]; decide) (by rw [k_1_2]; decide) (by rw [k_1_2]; rfl) (by decide) ?_
      refine lv_aload_n hx hb dX3_count_41 rfl (lv_at hl 0 rfl) ?_
      refine va_get (D := D) (ci := 3) (v := .int on) (C := RX3) (T := TX3) (N := 26) hx hb hts hinX3 hown hK hP 0 rfl rfl 4 (by decide) (hts (.fieldLink RX3 114 "HoldUnlessModel" "on" "I") (by decide +kernel)) (fun _ h9 => h9) rfl dX3_count_42 ?_
      refine ro_i (D := D) (va_runS (As := [.int on]) (rest := []) ⟨hx, hb, hml, hown, hts⟩ (c_X3_ones l D on  _) (va_cwS 1 hts gX3_count_X3_ones rfl rfl rfl (by decide +kernel) ⟨Nat.le_of_ble_eq_true rfl, Nat.le_of_ble_eq_true rfl⟩) ⟨cPre.blind, cPre.mk vP0 hKe vD0 hN⟩ rfl rfl hl.1 rfl (lv_room (Nat.le_of_ble_eq_true rfl)) dX3_count_45 ⟨Nat.zero_le _, Nat.zero_le _⟩) hS hA (fun H locs hkp0 hS => ?_)
      replace hP := hkp0 _ hP
      exact ro_iret hx hb hr hS hlocks (show s_X3_count n on may asd td what = (s_X3_ones on) from by (unfold s_X3_count; (try dsimp only); (try rw [if_neg k_1_1]); (try rw [if_pos k_1_2]); first | done | rfl)).symm dX3_count_48
    · by_cases k_1_3 : what = 2
      · refine lv_tableIn (tgt := 49) hx hb dX3_count_1 (by rw [k_1_3]; decide) (by rw [k_1_3]; decide) (by rw [k_1_3]; rfl) (by decide) ?_
        refine lv_aload_n hx hb dX3_count_49 rfl (lv_at hl 0 rfl) ?_
        refine va_get (D := D) (ci := 3) (v := .int may) (C := RX3) (T := TX3) (N := 26) hx hb hts hinX3 hown hK hP 0 rfl rfl 5 (by decide) (hts (.fieldLink RX3 117 "HoldUnlessModel" "may" "I") (by decide +kernel)) (fun _ h9 => h9) rfl dX3_count_50 ?_
        exact ro_iret hx hb hr hS hlocks (show s_X3_count n on may asd td what = may from by (unfold s_X3_count; (try dsimp only); (try rw [if_neg k_1_1]); (try rw [if_neg k_1_2]); (try rw [if_pos k_1_3]); first | done | rfl)).symm dX3_count_53
      · by_cases k_1_4 : what = 3
        · refine lv_tableIn (tgt := 54) hx hb dX3_count_1 (by rw [k_1_4]; decide) (by rw [k_1_4]; decide) (by rw [k_1_4]; rfl) (by decide) ?_
          refine lv_aload_n hx hb dX3_count_54 rfl (lv_at hl 0 rfl) ?_
          refine va_get (D := D) (ci := 3) (v := .int asd) (C := RX3) (T := TX3) (N := 26) hx hb hts hinX3 hown hK hP 0 rfl rfl 6 (by decide) (hts (.fieldLink RX3 120 "HoldUnlessModel" "assumed" "I") (by decide +kernel)) (fun _ h9 => h9) rfl dX3_count_55 ?_
          exact ro_iret hx hb hr hS hlocks (show s_X3_count n on may asd td what = asd from by (unfold s_X3_count; (try dsimp only); (try rw [if_neg k_1_1]); (try rw [if_neg k_1_2]); (try rw [if_neg k_1_3]); (try rw [if_pos k_1_4]); first | done | rfl)).symm dX3_count_58
        · by_cases k_1_5 : what = 4
          · refine lv_tableIn (tgt := 59) hx hb dX3_count_1 (by rw [k_1_5]; decide) (by rw [k_1_5]; decide) (by rw [k_1_5]; rfl) (by decide) ?_
            refine lv_aload_n hx hb dX3_count_59 rfl (lv_at hl 0 rfl) ?_
            refine va_get (D := D) (ci := 3) (v := .int td) (C := RX3) (T := TX3) (N := 26) hx hb hts hinX3 hown hK hP 0 rfl rfl 8 (by decide) (hts (.fieldLink RX3 69 "HoldUnlessModel" "texted" "I") (by decide +kernel)) (fun _ h9 => h9) rfl dX3_count_60 ?_
            exact ro_iret hx hb hr hS hlocks (show s_X3_count n on may asd td what = td from by (unfold s_X3_count; (try dsimp only); (try rw [if_neg k_1_1]); (try rw [if_neg k_1_2]); (try rw [if_neg k_1_3]); (try rw [if_neg k_1_4]); (try rw [if_pos k_1_5]); first | done | rfl)).symm dX3_count_63
          · have ne_6 := lv_neT (a := 0) k_1_1 (by decide)
            have ne_7 := lv_neT (a := 1) k_1_2 (by decide)
            have ne_8 := lv_neT (a := 2) k_1_3 (by decide)
            have ne_9 := lv_neT (a := 3) k_1_4 (by decide)
            have ne_10 := lv_neT (a := 4) k_1_5 (by decide)
            refine lv_tableOut (tgt := 64) hx hb dX3_count_1 (by omega) (by decide) ?_
            refine lv_iconst (v := (-1)) hx hb dX3_count_64 (by decide) ?_
            exact ro_iret hx hb hr hS hlocks (show s_X3_count n on may asd td what = (-1) from by (unfold s_X3_count; (try dsimp only); (try rw [if_neg k_1_1]); (try rw [if_neg k_1_2]); (try rw [if_neg k_1_3]); (try rw [if_neg k_1_4]); (try rw [if_neg k_1_5]); first | done | rfl)).symm dX3_count_65

def s_X3_trace (tr : Int64) : Int64 := tr
set_option maxHeartbeats 4000000 in
set_option maxRecDepth 100000 in
theorem c_X3_trace (l : Launch) (D : va_G) (h : Nat → Nat) (cA : Nat → ClassId) (n : Nat) (hd : Nat → Int32) (fi : Nat → Int32) (un : Nat → Int32) (on : Int32) (may : Int32) (asd : Int32) (tx : Nat → Int32) (td : Int32) (kp : Nat → Int32) (ko : Nat → Int32) (ka : Nat → Int32) (tr : Int64) (pat : Int32) (pfr : Int32) (rhd : Nat → Int32) (rif : Nat → Int32) (rul : Nat → Int32) (prr : Int32) (prm : Int32) (rd : Nat → Int32) (bb : Nat → Int32) (nw : Nat → Int32) (ot : Nat → Int32) (ev : Nat → Int32) (od : Nat → Int32) (hn : n ≤ 10) (sz : Nat) : Met l yX3_trace wsX3_trace ({ frames := 0, cells := 0, slots := 0, locals := 0 }) (va_Pc [.ref (h 0)] (cPre D (tM h cA) (wM h cA (nI n) hd fi un on may asd tx td kp ko ka tr pat pfr rhd rif rul prr prm rd bb nw ot ev od) sz)) (va_Ql (fun r (_ : Unit) => r = s_X3_trace tr) (fun _ _ => True) (fun q => sz ≤ q)) 0 0 (fun q => sz ≤ q) := by
  refine Met.ofW (cc := cX3_trace) (maxL := 1) (ret := (some .long)) (by decide) rfl ?_
  intro p e s m args below meth c s₁ B hml hv
  obtain ⟨rfl, hsz, hP, hK, hD, hN⟩ := hv
  have hx := B.exec
  have hb := B.bytes
  have hr := B.returns
  have hts := atoms_spec (ws := wsX3_trace) B.pre
  have hown : s.vm.findClass RX3 = some m.cls := findClass_of_methodNamed B.named
  have hlocks := B.notSynchronized
  have hinX3 : ∀ w ∈ wsX30, w ∈ wsX3_trace := fun w h => List.mem_cons_of_mem _ (List.mem_append_right _ h)
  subst hsz
  obtain ⟨A, hAe⟩ : ∃ A : Nat → Prop, A = (fun q : Nat => s.heap.size ≤ q) := ⟨_, rfl⟩
  have hA : ∀ q : Nat, s.heap.size ≤ q → A q := fun q h => by rw [hAe]; exact h
  have hS : va_S A s.heap s.heap [] := va_S.rf
  subst hAe
  have hl := lv_entry ([.ref (h 0)]) (n := 1) (Nat.le_of_ble_eq_true rfl)
  rw [lg_entry_eq]
  generalize (lg_sl ([.ref (h 0)]) ++ List.replicate (1 - (lg_sl ([.ref (h 0)])).length) Slot.unset).toArray = ls at hl ⊢
  replace hl : lv_has ls 1 [(0, .ref (h 0))] := hl
  have hKe := hK.sub (tys' := []) [] rfl
  refine lv_aload_n hx hb dX3_trace_0 rfl (lv_at hl 0 rfl) ?_
  refine va_get (D := D) (ci := 3) (v := .long tr) (C := RX3) (T := TX3) (N := 26) hx hb hts hinX3 hown hK hP 0 rfl rfl 12 (by decide) (hts (.fieldLink RX3 175 "HoldUnlessModel" "trace" "J") (by decide +kernel)) (fun _ h9 => h9) rfl dX3_trace_1 ?_
  exact ro_lret hx hb hr hS hlocks (show s_X3_trace tr = tr from by (unfold s_X3_trace; (try dsimp only); first | done | rfl)).symm dX3_trace_4

def s_X3_mark (n : Nat) (hd : Nat → Int32) (fi : Nat → Int32) (un : Nat → Int32) (on : Int32) (tr : Int64) (kind : Int32) (k : Int32) : Int32 × Int64 := (if (s_X3_in ((kind : Int32).toInt64) 0 5) = 0 then ((-1000000), tr) else (if (s_X3_isRule n k) = 0 then ((-1000000), tr) else (if kind = 1 then ((2 * ((s_X3_ones (fi k.toNatClampNeg)) + (s_X3_ones (un k.toNatClampNeg)))), ((tr + 1) + 10)) else (if kind = 2 then ((((s_X3_ones (fi k.toNatClampNeg)) + (s_X3_ones (un k.toNatClampNeg))) - (s_X3_ones (un k.toNatClampNeg))), ((tr + 1) + 100)) else (if kind = 3 then (((2 * ((s_X3_ones (fi k.toNatClampNeg)) + (s_X3_ones (un k.toNatClampNeg)))) + k), ((tr + 1) + 1010)) else (if kind = 4 then (((((s_X3_ones (fi k.toNatClampNeg)) + (s_X3_ones (un k.toNatClampNeg))) - (s_X3_ones (un k.toNatClampNeg))) + ((on >>> (k &&& 31)) &&& 1)), ((tr + 1) + 10100)) else (if kind = 5 then ((((s_X3_ones (fi k.toNatClampNeg)) + (s_X3_ones (un k.toNatClampNeg))) + (hd k.toNatClampNeg)), ((tr + 1) + 100000)) else (((s_X3_ones (fi k.toNatClampNeg)) + (s_X3_ones (un k.toNatClampNeg))), (tr + 1)))))))))
set_option maxHeartbeats 4000000 in
set_option maxRecDepth 100000 in
theorem c_X3_mark (l : Launch) (D : va_G) (h : Nat → Nat) (cA : Nat → ClassId) (n : Nat) (hd : Nat → Int32) (fi : Nat → Int32) (un : Nat → Int32) (on : Int32) (may : Int32) (asd : Int32) (tx : Nat → Int32) (td : Int32) (kp : Nat → Int32) (ko : Nat → Int32) (ka : Nat → Int32) (tr : Int64) (pat : Int32) (pfr : Int32) (rhd : Nat → Int32) (rif : Nat → Int32) (rul : Nat → Int32) (prr : Int32) (prm : Int32) (rd : Nat → Int32) (bb : Nat → Int32) (nw : Nat → Int32) (ot : Nat → Int32) (ev : Nat → Int32) (od : Nat → Int32) (kind : Int32) (k : Int32) (hn : n ≤ 10) (sz : Nat) : Met l yX3_mark wsX3_mark ({ frames := 2, cells := 0, slots := 0, locals := 46 }) (va_Pc [.ref (h 0), .int kind, .int k] (cPre D (tM h cA) (wM h cA (nI n) hd fi un on may asd tx td kp ko ka tr pat pfr rhd rif rul prr prm rd bb nw ot ev od) sz)) (va_Qi (fun (r : Int32) (u : Int64) => (r, u) = s_X3_mark n hd fi un on tr kind k) (rwB D (fun u : Int64 => (wM h cA (nI n) hd fi un on may asd tx td kp ko ka u pat pfr rhd rif rul prr prm rd bb nw ot ev od)) (va_A (wM h cA (nI n) hd fi un on may asd tx td kp ko ka tr pat pfr rhd rif rul prr prm rd bb nw ot ev od) sz)) (va_A (wM h cA (nI n) hd fi un on may asd tx td kp ko ka tr pat pfr rhd rif rul prr prm rd bb nw ot ev od) sz)) 0 0 (va_A (wM h cA (nI n) hd fi un on may asd tx td kp ko ka tr pat pfr rhd rif rul prr prm rd bb nw ot ev od) sz) := by
  refine Met.ofW (cc := cX3_mark) (maxL := 4) (ret := (some .int)) (by decide) rfl ?_
  intro p e s m args below meth c s₁ B hml hv
  obtain ⟨rfl, hsz, hP, hK, hD, hN⟩ := hv
  have hx := B.exec
  have hb := B.bytes
  have hr := B.returns
  have hts := atoms_spec (ws := wsX3_mark) B.pre
  have hown : s.vm.findClass RX3 = some m.cls := findClass_of_methodNamed B.named
  have hlocks := B.notSynchronized
  have hinX3 : ∀ w ∈ wsX30, w ∈ wsX3_mark := fun w h => List.mem_cons_of_mem _ (List.mem_append_right _ h)
  subst hsz
  replace hD := hD.self (sz := s.heap.size)
  generalize hAe : va_A (wM h cA (nI n) hd fi un on may asd tx td kp ko ka tr pat pfr rhd rif rul prr prm rd bb nw ot ev od) s.heap.size = A at hD ⊢
  have hA : ∀ q : Nat, s.heap.size ≤ q → A q := fun q h => by rw [← hAe]; exact Or.inr h
  have hS : va_S A s.heap s.heap [] := va_S.rf
  have hl := lv_entry ([.ref (h 0), .int kind, .int k]) (n := 4) (Nat.le_of_ble_eq_true rfl)
  rw [lg_entry_eq]
  generalize (lg_sl ([.ref (h 0), .int kind, .int k]) ++ List.replicate (4 - (lg_sl ([.ref (h 0), .int kind, .int k])).length) Slot.unset).toArray = ls at hl ⊢
  replace hl : lv_has ls 4 [(0, .ref (h 0)), (1, .int kind), (2, .int k)] := hl
  have hKe := hK.sub (tys' := []) [] rfl
  refine lv_iload_n hx hb dX3_mark_0 rfl (lv_at hl 1 rfl) ?_
  refine lv_i2l hx hb dX3_mark_1 rfl ?_
  refine lv_lconst (v := 0) hx hb dX3_mark_2 (by decide) ?_
  refine lv_ldc2 (v := 5) hx hb hown (hts (.constantLong RX3 172 (5)) (by decide +kernel)) dX3_mark_3 ?_
  refine ro_i (D := D) (va_runS (As := [.long ((kind : Int32).toInt64), .long 0, .long 5]) (rest := []) ⟨hx, hb, hml, hown, hts⟩ (c_X3_in l D ((kind : Int32).toInt64) 0 5  _) (va_cwS 3 hts gX3_mark_X3_in rfl rfl rfl (by decide +kernel) ⟨Nat.le_of_ble_eq_true rfl, Nat.le_of_ble_eq_true rfl⟩) ⟨cPre.blind, cPre.mk vP0 hKe vD0 hN⟩ rfl rfl hl.1 rfl (lv_room (Nat.le_of_ble_eq_true rfl)) dX3_mark_6 ⟨Nat.zero_le _, Nat.zero_le _⟩) hS hA (fun H locs hkp0 hS => ?_)
  replace hP := hkp0 _ hP
  refine lv_if_eq (tgt := 20) hx hb dX3_mark_9 (by decide) (fun c_9_1 => ?_) (fun c_9_1 => ?_)
  · refine lv_ldc (v := (-1000000)) hx hb hown (hts (.constant RX3 174 (-1000000)) (by decide +kernel)) dX3_mark_20 ?_
    exact rw_iret hx hb hr hS hlocks tr (show s_X3_mark n hd fi un on tr kind k = ((-1000000), tr) from by (unfold s_X3_mark; (try dsimp only); (try rw [if_pos c_9_1]); first | done | rfl)).symm hP hD dX3_mark_22
  · refine lv_aload_n hx hb dX3_mark_12 rfl (lv_at hl 0 rfl) ?_
    refine lv_iload_n hx hb dX3_mark_13 rfl (lv_at hl 2 rfl) ?_
    refine ro_i (D := D) (va_runV (As := [.int k]) (rest := []) ⟨hx, hb, hml, hown, hts⟩ (c_X3_isRule l D h cA n hd fi un on may asd tx td kp ko ka tr pat pfr rhd rif rul prr prm rd bb nw ot ev od k (by first | assumption | omega) _) (cwV 1 hts gX3_mark_X3_isRule rfl rfl rfl (by decide +kernel) ⟨Nat.le_of_ble_eq_true rfl, Nat.le_of_ble_eq_true rfl⟩) ⟨cPre.blind, va_recv hK hP (ci := 3) (q0 := 0) rfl rfl, cPre.mk hP hK hD hN⟩ rfl rfl hl.1 rfl (lv_room (Nat.le_of_ble_eq_true rfl)) dX3_mark_14 ⟨Nat.zero_le _, Nat.zero_le _⟩) hS hA (fun H locs hkp0 hS => ?_)
    replace hP := hkp0 _ hP
    refine lv_if_ne (tgt := 23) hx hb dX3_mark_17 (by decide) (fun c_17_2 => ?_) (fun c_17_2 => ?_)
    · refine lv_aload_n hx hb dX3_mark_23 rfl (lv_at hl 0 rfl) ?_
      refine va_get (D := D) (ci := 3) (v := .ref (h 2)) (C := RX3) (T := TX3) (N := 26) hx hb hts hinX3 hown hK hP 0 rfl rfl 2 (by decide) (hts (.fieldLink RX3 13 "HoldUnlessModel" "ifs" "[I") (by decide +kernel)) (fun _ h9 => h9) rfl dX3_mark_24 ?_
      refine lv_iload_n hx hb dX3_mark_27 rfl (lv_at hl 2 rfl) ?_
      refine va_iald hx hb hK hP 2 1 rfl rfl ((vp_ruleM c_17_2 hn)) dX3_mark_28 ?_
      refine ro_i (D := D) (va_runS (As := [.int (fi k.toNatClampNeg)]) (rest := []) ⟨hx, hb, hml, hown, hts⟩ (c_X3_ones l D (fi k.toNatClampNeg)  _) (va_cwS 1 hts gX3_mark_X3_ones rfl rfl rfl (by decide +kernel) ⟨Nat.le_of_ble_eq_true rfl, Nat.le_of_ble_eq_true rfl⟩) ⟨cPre.blind, cPre.mk vP0 hKe vD0 hN⟩ rfl rfl hl.1 rfl (lv_room (Nat.le_of_ble_eq_true rfl)) dX3_mark_29 ⟨Nat.zero_le _, Nat.zero_le _⟩) hS hA (fun H locs hkp0 hS => ?_)
      replace hP := hkp0 _ hP
      refine lv_aload_n hx hb dX3_mark_32 rfl (lv_at hl 0 rfl) ?_
      refine va_get (D := D) (ci := 3) (v := .ref (h 3)) (C := RX3) (T := TX3) (N := 26) hx hb hts hinX3 hown hK hP 0 rfl rfl 3 (by decide) (hts (.fieldLink RX3 16 "HoldUnlessModel" "unless" "[I") (by decide +kernel)) (fun _ h9 => h9) rfl dX3_mark_33 ?_
      refine lv_iload_n hx hb dX3_mark_36 rfl (lv_at hl 2 rfl) ?_
      refine va_iald hx hb hK hP 3 2 rfl rfl ((vp_ruleM c_17_2 hn)) dX3_mark_37 ?_
      refine ro_i (D := D) (va_runS (As := [.int (un k.toNatClampNeg)]) (rest := [.int (s_X3_ones (fi k.toNatClampNeg))]) ⟨hx, hb, hml, hown, hts⟩ (c_X3_ones l D (un k.toNatClampNeg)  _) (va_cwS 1 hts gX3_mark_X3_ones rfl rfl rfl (by decide +kernel) ⟨Nat.le_of_ble_eq_true rfl, Nat.le_of_ble_eq_true rfl⟩) ⟨cPre.blind, cPre.mk vP0 hKe vD0 hN⟩ rfl rfl hl.1 rfl (lv_room (Nat.le_of_ble_eq_true rfl)) dX3_mark_38 ⟨Nat.zero_le _, Nat.zero_le _⟩) hS hA (fun H locs hkp0 hS => ?_)
      replace hP := hkp0 _ hP
      refine lv_iadd hx hb dX3_mark_41 ?_
      refine lv_istore_n (lv' := [(3, .int ((s_X3_ones (fi k.toNatClampNeg)) + (s_X3_ones (un k.toNatClampNeg)))), (0, .ref (h 0)), (1, .int kind), (2, .int k)]) hx hb dX3_mark_42 rfl hl (by decide) rfl (fun ls hl => ?_)
      refine lv_aload_n hx hb dX3_mark_43 rfl (lv_at hl 1 rfl) ?_
      refine lv_dup hx hb dX3_mark_44 rfl ?_
      refine va_get (D := D) (ci := 3) (v := .long tr) (C := RX3) (T := TX3) (N := 26) hx hb hts hinX3 hown hK hP 0 rfl rfl 12 (by decide) (hts (.fieldLink RX3 175 "HoldUnlessModel" "trace" "J") (by decide +kernel)) (fun _ h9 => h9) rfl dX3_mark_45 ?_
      refine lv_lconst (v := 1) hx hb dX3_mark_48 (by decide) ?_
      refine lv_ladd hx hb dX3_mark_49 ?_
      refine va_put (D := D) (ci := 3) (v := .long (tr + 1)) (ty := .long) (C := RX3) (T := TX3) (N := 26) hx hb hts hinX3 tyX3 tyX3_ok nmX3 hown hK hP hD hS 0 rfl rfl 12 (by decide) (hts (.fieldLink RX3 175 "HoldUnlessModel" "trace" "J") (by decide +kernel)) (fun _ h9 => h9) rfl (by decide +kernel) rfl rfl (Nat.le_of_ble_eq_true rfl) dX3_mark_50 (fun H locs hP hD hS => ?_)
      replace hP : va_P D vwCl (wM h cA (nI n) hd fi un on may asd tx td kp ko ka (tr + 1) pat pfr rhd rif rul prr prm rd bb nw ot ev od) H := hP
      replace hD : va_D A (wM h cA (nI n) hd fi un on may asd tx td kp ko ka (tr + 1) pat pfr rhd rif rul prr prm rd bb nw ot ev od) := hD
      refine lv_iload_n hx hb dX3_mark_53 rfl (lv_at hl 2 rfl) ?_
      by_cases k_54_3 : kind = 1
      · refine lv_tableIn (tgt := 88) hx hb dX3_mark_54 (by rw [k_54_3]; decide) (by rw [k_54_3]; decide) (by rw [k_54_3]; rfl) (by decide) ?_
        refine lv_aload_n hx hb dX3_mark_88 rfl (lv_at hl 1 rfl) ?_
        refine lv_dup hx hb dX3_mark_89 rfl ?_
        refine va_get (D := D) (ci := 3) (v := .long (tr + 1)) (C := RX3) (T := TX3) (N := 26) hx hb hts hinX3 hown hK hP 0 rfl rfl 12 (by decide) (hts (.fieldLink RX3 175 "HoldUnlessModel" "trace" "J") (by decide +kernel)) (fun _ h9 => h9) rfl dX3_mark_90 ?_
        refine lv_ldc2 (v := 10) hx hb hown (hts (.constantLong RX3 179 (10)) (by decide +kernel)) dX3_mark_93 ?_
        refine lv_ladd hx hb dX3_mark_96 ?_
        refine va_put (D := D) (ci := 3) (v := .long ((tr + 1) + 10)) (ty := .long) (C := RX3) (T := TX3) (N := 26) hx hb hts hinX3 tyX3 tyX3_ok nmX3 hown hK hP hD hS 0 rfl rfl 12 (by decide) (hts (.fieldLink RX3 175 "HoldUnlessModel" "trace" "J") (by decide +kernel)) (fun _ h9 => h9) rfl (by decide +kernel) rfl rfl (Nat.le_of_ble_eq_true rfl) dX3_mark_97 (fun H locs hP hD hS => ?_)
        replace hP : va_P D vwCl (wM h cA (nI n) hd fi un on may asd tx td kp ko ka ((tr + 1) + 10) pat pfr rhd rif rul prr prm rd bb nw ot ev od) H := hP
        replace hD : va_D A (wM h cA (nI n) hd fi un on may asd tx td kp ko ka ((tr + 1) + 10) pat pfr rhd rif rul prr prm rd bb nw ot ev od) := hD
        refine lv_iconst (v := 2) hx hb dX3_mark_100 (by decide) ?_
        refine lv_iload_n hx hb dX3_mark_101 rfl (lv_at hl 0 rfl) ?_
        refine lv_imul hx hb dX3_mark_102 ?_
        exact rw_iret hx hb hr hS hlocks ((tr + 1) + 10) (show s_X3_mark n hd fi un on tr kind k = ((2 * ((s_X3_ones (fi k.toNatClampNeg)) + (s_X3_ones (un k.toNatClampNeg)))), ((tr + 1) + 10)) from by (unfold s_X3_mark; (try dsimp only); (try rw [if_neg c_9_1]); (try rw [if_neg c_17_2]); (try rw [if_pos k_54_3]); first | done | rfl)).symm hP hD dX3_mark_103
      · by_cases k_54_4 : kind = 2
        · refine lv_tableIn (tgt := 104) hx hb dX3_mark_54 (by rw [k_54_4]; decide) (by rw [k_54_4]; decide) (by rw [k_54_4]; rfl) (by decide) ?_
          refine lv_aload_n hx hb dX3_mark_104 rfl (lv_at hl 1 rfl) ?_
          refine lv_dup hx hb dX3_mark_105 rfl ?_
          refine va_get (D := D) (ci := 3) (v := .long (tr + 1)) (C := RX3) (T := TX3) (N := 26) hx hb hts hinX3 hown hK hP 0 rfl rfl 12 (by decide) (hts (.fieldLink RX3 175 "HoldUnlessModel" "trace" "J") (by decide +kernel)) (fun _ h9 => h9) rfl dX3_mark_106 ?_
          refine lv_ldc2 (v := 100) hx hb hown (hts (.constantLong RX3 181 (100)) (by decide +kernel)) dX3_mark_109 ?_
          refine lv_ladd hx hb dX3_mark_112 ?_
          refine va_put (D := D) (ci := 3) (v := .long ((tr + 1) + 100)) (ty := .long) (C := RX3) (T := TX3) (N := 26) hx hb hts hinX3 tyX3 tyX3_ok nmX3 hown hK hP hD hS 0 rfl rfl 12 (by decide) (hts (.fieldLink RX3 175 "HoldUnlessModel" "trace" "J") (by decide +kernel)) (fun _ h9 => h9) rfl (by decide +kernel) rfl rfl (Nat.le_of_ble_eq_true rfl) dX3_mark_113 (fun H locs hP hD hS => ?_)
          replace hP : va_P D vwCl (wM h cA (nI n) hd fi un on may asd tx td kp ko ka ((tr + 1) + 100) pat pfr rhd rif rul prr prm rd bb nw ot ev od) H := hP
          replace hD : va_D A (wM h cA (nI n) hd fi un on may asd tx td kp ko ka ((tr + 1) + 100) pat pfr rhd rif rul prr prm rd bb nw ot ev od) := hD
          refine lv_iload_n hx hb dX3_mark_116 rfl (lv_at hl 0 rfl) ?_
          refine lv_aload_n hx hb dX3_mark_117 rfl (lv_at hl 1 rfl) ?_
          refine va_get (D := D) (ci := 3) (v := .ref (h 3)) (C := RX3) (T := TX3) (N := 26) hx hb hts hinX3 hown hK hP 0 rfl rfl 3 (by decide) (hts (.fieldLink RX3 16 "HoldUnlessModel" "unless" "[I") (by decide +kernel)) (fun _ h9 => h9) rfl dX3_mark_118 ?_
          refine lv_iload_n hx hb dX3_mark_121 rfl (lv_at hl 3 rfl) ?_
          refine va_iald hx hb hK hP 3 2 rfl rfl ((vp_ruleM c_17_2 hn)) dX3_mark_122 ?_
          refine ro_i (D := D) (va_runS (As := [.int (un k.toNatClampNeg)]) (rest := [.int ((s_X3_ones (fi k.toNatClampNeg)) + (s_X3_ones (un k.toNatClampNeg)))]) ⟨hx, hb, hml, hown, hts⟩ (c_X3_ones l D (un k.toNatClampNeg)  _) (va_cwS 1 hts gX3_mark_X3_ones rfl rfl rfl (by decide +kernel) ⟨Nat.le_of_ble_eq_true rfl, Nat.le_of_ble_eq_true rfl⟩) ⟨cPre.blind, cPre.mk vP0 hKe vD0 hN⟩ rfl rfl hl.1 rfl (lv_room (Nat.le_of_ble_eq_true rfl)) dX3_mark_123 ⟨Nat.zero_le _, Nat.zero_le _⟩) hS hA (fun H locs hkp0 hS => ?_)
          replace hP := hkp0 _ hP
          refine lv_isub hx hb dX3_mark_126 ?_
          exact rw_iret hx hb hr hS hlocks ((tr + 1) + 100) (show s_X3_mark n hd fi un on tr kind k = ((((s_X3_ones (fi k.toNatClampNeg)) + (s_X3_ones (un k.toNatClampNeg))) - (s_X3_ones (un k.toNatClampNeg))), ((tr + 1) + 100)) from by (unfold s_X3_mark; (try dsimp only); (try rw [if_neg c_9_1]); (try rw [if_neg c_17_2]); (try rw [if_neg k_54_3]); (try rw [if_pos k_54_4]); first | done | rfl)).symm hP hD dX3_mark_127
        · by_cases k_54_5 : kind = 3
          · refine lv_tableIn (tgt := 128) hx hb dX3_mark_54 (by rw [k_54_5]; decide) (by rw [k_54_5]; decide) (by rw [k_54_5]; rfl) (by decide) ?_
            refine lv_aload_n hx hb dX3_mark_128 rfl (lv_at hl 1 rfl) ?_
            refine lv_dup hx hb dX3_mark_129 rfl ?_
            refine va_get (D := D) (ci := 3) (v := .long (tr + 1)) (C := RX3) (T := TX3) (N := 26) hx hb hts hinX3 hown hK hP 0 rfl rfl 12 (by decide) (hts (.fieldLink RX3 175 "HoldUnlessModel" "trace" "J") (by decide +kernel)) (fun _ h9 => h9) rfl dX3_mark_130 ?_
            refine lv_ldc2 (v := 1010) hx hb hown (hts (.constantLong RX3 183 (1010)) (by decide +kernel)) dX3_mark_133 ?_
            refine lv_ladd hx hb dX3_mark_136 ?_
            refine va_put (D := D) (ci := 3) (v := .long ((tr + 1) + 1010)) (ty := .long) (C := RX3) (T := TX3) (N := 26) hx hb hts hinX3 tyX3 tyX3_ok nmX3 hown hK hP hD hS 0 rfl rfl 12 (by decide) (hts (.fieldLink RX3 175 "HoldUnlessModel" "trace" "J") (by decide +kernel)) (fun _ h9 => h9) rfl (by decide +kernel) rfl rfl (Nat.le_of_ble_eq_true rfl) dX3_mark_137 (fun H locs hP hD hS => ?_)
            replace hP : va_P D vwCl (wM h cA (nI n) hd fi un on may asd tx td kp ko ka ((tr + 1) + 1010) pat pfr rhd rif rul prr prm rd bb nw ot ev od) H := hP
            replace hD : va_D A (wM h cA (nI n) hd fi un on may asd tx td kp ko ka ((tr + 1) + 1010) pat pfr rhd rif rul prr prm rd bb nw ot ev od) := hD
            refine lv_iconst (v := 2) hx hb dX3_mark_140 (by decide) ?_
            refine lv_iload_n hx hb dX3_mark_141 rfl (lv_at hl 0 rfl) ?_
            refine lv_imul hx hb dX3_mark_142 ?_
            refine lv_iload_n hx hb dX3_mark_143 rfl (lv_at hl 3 rfl) ?_
            refine lv_iadd hx hb dX3_mark_144 ?_
            exact rw_iret hx hb hr hS hlocks ((tr + 1) + 1010) (show s_X3_mark n hd fi un on tr kind k = (((2 * ((s_X3_ones (fi k.toNatClampNeg)) + (s_X3_ones (un k.toNatClampNeg)))) + k), ((tr + 1) + 1010)) from by (unfold s_X3_mark; (try dsimp only); (try rw [if_neg c_9_1]); (try rw [if_neg c_17_2]); (try rw [if_neg k_54_3]); (try rw [if_neg k_54_4]); (try rw [if_pos k_54_5]); first | done | rfl)).symm hP hD dX3_mark_145
          · by_cases k_54_6 : kind = 4
            · refine lv_tableIn (tgt := 146) hx hb dX3_mark_54 (by rw [k_54_6]; decide) (by rw [k_54_6]; decide) (by rw [k_54_6]; rfl) (by decide) ?_
              refine lv_aload_n hx hb dX3_mark_146 rfl (lv_at hl 1 rfl) ?_
              refine lv_dup hx hb dX3_mark_147 rfl ?_
              refine va_get (D := D) (ci := 3) (v := .long (tr + 1)) (C := RX3) (T := TX3) (N := 26) hx hb hts hinX3 hown hK hP 0 rfl rfl 12 (by decide) (hts (.fieldLink RX3 175 "HoldUnlessModel" "trace" "J") (by decide +kernel)) (fun _ h9 => h9) rfl dX3_mark_148 ?_
              refine lv_ldc2 (v := 10100) hx hb hown (hts (.constantLong RX3 185 (10100)) (by decide +kernel)) dX3_mark_151 ?_
              refine lv_ladd hx hb dX3_mark_154 ?_
              refine va_put (D := D) (ci := 3) (v := .long ((tr + 1) + 10100)) (ty := .long) (C := RX3) (T := TX3) (N := 26) hx hb hts hinX3 tyX3 tyX3_ok nmX3 hown hK hP hD hS 0 rfl rfl 12 (by decide) (hts (.fieldLink RX3 175 "HoldUnlessModel" "trace" "J") (by decide +kernel)) (fun _ h9 => h9) rfl (by decide +kernel) rfl rfl (Nat.le_of_ble_eq_true rfl) dX3_mark_155 (fun H locs hP hD hS => ?_)
              replace hP : va_P D vwCl (wM h cA (nI n) hd fi un on may asd tx td kp ko ka ((tr + 1) + 10100) pat pfr rhd rif rul prr prm rd bb nw ot ev od) H := hP
              replace hD : va_D A (wM h cA (nI n) hd fi un on may asd tx td kp ko ka ((tr + 1) + 10100) pat pfr rhd rif rul prr prm rd bb nw ot ev od) := hD
              refine lv_iload_n hx hb dX3_mark_158 rfl (lv_at hl 0 rfl) ?_
              refine lv_aload_n hx hb dX3_mark_159 rfl (lv_at hl 1 rfl) ?_
              refine va_get (D := D) (ci := 3) (v := .ref (h 3)) (C := RX3) (T := TX3) (N := 26) hx hb hts hinX3 hown hK hP 0 rfl rfl 3 (by decide) (hts (.fieldLink RX3 16 "HoldUnlessModel" "unless" "[I") (by decide +kernel)) (fun _ h9 => h9) rfl dX3_mark_160 ?_
              refine lv_iload_n hx hb dX3_mark_163 rfl (lv_at hl 3 rfl) ?_
              refine va_iald hx hb hK hP 3 2 rfl rfl ((vp_ruleM c_17_2 hn)) dX3_mark_164 ?_
              refine ro_i (D := D) (va_runS (As := [.int (un k.toNatClampNeg)]) (rest := [.int ((s_X3_ones (fi k.toNatClampNeg)) + (s_X3_ones (un k.toNatClampNeg)))]) ⟨hx, hb, hml, hown, hts⟩ (c_X3_ones l D (un k.toNatClampNeg)  _) (va_cwS 1 hts gX3_mark_X3_ones rfl rfl rfl (by decide +kernel) ⟨Nat.le_of_ble_eq_true rfl, Nat.le_of_ble_eq_true rfl⟩) ⟨cPre.blind, cPre.mk vP0 hKe vD0 hN⟩ rfl rfl hl.1 rfl (lv_room (Nat.le_of_ble_eq_true rfl)) dX3_mark_165 ⟨Nat.zero_le _, Nat.zero_le _⟩) hS hA (fun H locs hkp0 hS => ?_)
              replace hP := hkp0 _ hP
              refine lv_isub hx hb dX3_mark_168 ?_
              refine lv_aload_n hx hb dX3_mark_169 rfl (lv_at hl 1 rfl) ?_
              refine va_get (D := D) (ci := 3) (v := .int on) (C := RX3) (T := TX3) (N := 26) hx hb hts hinX3 hown hK hP 0 rfl rfl 4 (by decide) (hts (.fieldLink RX3 114 "HoldUnlessModel" "on" "I") (by decide +kernel)) (fun _ h9 => h9) rfl dX3_mark_170 ?_
              refine lv_iload_n hx hb dX3_mark_173 rfl (lv_at hl 3 rfl) ?_
              refine lv_ishr hx hb dX3_mark_174 ?_
              refine lv_iconst (v := 1) hx hb dX3_mark_175 (by decide) ?_
              refine lv_iand hx hb dX3_mark_176 ?_
              refine lv_iadd hx hb dX3_mark_177 ?_
              exact rw_iret hx hb hr hS hlocks ((tr + 1) + 10100) (show s_X3_mark n hd fi un on tr kind k = (((((s_X3_ones (fi k.toNatClampNeg)) + (s_X3_ones (un k.toNatClampNeg))) - (s_X3_ones (un k.toNatClampNeg))) + ((on >>> (k &&& 31)) &&& 1)), ((tr + 1) + 10100)) from by (unfold s_X3_mark; (try dsimp only); (try rw [if_neg c_9_1]); (try rw [if_neg c_17_2]); (try rw [if_neg k_54_3]); (try rw [if_neg k_54_4]); (try rw [if_neg k_54_5]); (try rw [if_pos k_54_6]); first | done | rfl)).symm hP hD dX3_mark_178
            · by_cases k_54_7 : kind = 5
              · refine lv_tableIn (tgt := 179) hx hb dX3_mark_54 (by rw [k_54_7]; decide) (by rw [k_54_7]; decide) (by rw [k_54_7]; rfl) (by decide) ?_
                refine lv_aload_n hx hb dX3_mark_179 rfl (lv_at hl 1 rfl) ?_
                refine lv_dup hx hb dX3_mark_180 rfl ?_
                refine va_get (D := D) (ci := 3) (v := .long (tr + 1)) (C := RX3) (T := TX3) (N := 26) hx hb hts hinX3 hown hK hP 0 rfl rfl 12 (by decide) (hts (.fieldLink RX3 175 "HoldUnlessModel" "trace" "J") (by decide +kernel)) (fun _ h9 => h9) rfl dX3_mark_181 ?_
                refine lv_ldc2 (v := 100000) hx hb hown (hts (.constantLong RX3 187 (100000)) (by decide +kernel)) dX3_mark_184 ?_
                refine lv_ladd hx hb dX3_mark_187 ?_
                refine va_put (D := D) (ci := 3) (v := .long ((tr + 1) + 100000)) (ty := .long) (C := RX3) (T := TX3) (N := 26) hx hb hts hinX3 tyX3 tyX3_ok nmX3 hown hK hP hD hS 0 rfl rfl 12 (by decide) (hts (.fieldLink RX3 175 "HoldUnlessModel" "trace" "J") (by decide +kernel)) (fun _ h9 => h9) rfl (by decide +kernel) rfl rfl (Nat.le_of_ble_eq_true rfl) dX3_mark_188 (fun H locs hP hD hS => ?_)
                replace hP : va_P D vwCl (wM h cA (nI n) hd fi un on may asd tx td kp ko ka ((tr + 1) + 100000) pat pfr rhd rif rul prr prm rd bb nw ot ev od) H := hP
                replace hD : va_D A (wM h cA (nI n) hd fi un on may asd tx td kp ko ka ((tr + 1) + 100000) pat pfr rhd rif rul prr prm rd bb nw ot ev od) := hD
                refine lv_iload_n hx hb dX3_mark_191 rfl (lv_at hl 0 rfl) ?_
                refine lv_aload_n hx hb dX3_mark_192 rfl (lv_at hl 1 rfl) ?_
                refine va_get (D := D) (ci := 3) (v := .ref (h 1)) (C := RX3) (T := TX3) (N := 26) hx hb hts hinX3 hown hK hP 0 rfl rfl 1 (by decide) (hts (.fieldLink RX3 7 "HoldUnlessModel" "head" "[I") (by decide +kernel)) (fun _ h9 => h9) rfl dX3_mark_193 ?_
                refine lv_iload_n hx hb dX3_mark_196 rfl (lv_at hl 3 rfl) ?_
                refine va_iald hx hb hK hP 1 0 rfl rfl ((vp_ruleM c_17_2 hn)) dX3_mark_197 ?_
                refine lv_iadd hx hb dX3_mark_198 ?_
                exact rw_iret hx hb hr hS hlocks ((tr + 1) + 100000) (show s_X3_mark n hd fi un on tr kind k = ((((s_X3_ones (fi k.toNatClampNeg)) + (s_X3_ones (un k.toNatClampNeg))) + (hd k.toNatClampNeg)), ((tr + 1) + 100000)) from by (unfold s_X3_mark; (try dsimp only); (try rw [if_neg c_9_1]); (try rw [if_neg c_17_2]); (try rw [if_neg k_54_3]); (try rw [if_neg k_54_4]); (try rw [if_neg k_54_5]); (try rw [if_neg k_54_6]); (try rw [if_pos k_54_7]); first | done | rfl)).symm hP hD dX3_mark_199
              · have ne_8 := lv_neT (a := 1) k_54_3 (by decide)
                have ne_9 := lv_neT (a := 2) k_54_4 (by decide)
                have ne_10 := lv_neT (a := 3) k_54_5 (by decide)
                have ne_11 := lv_neT (a := 4) k_54_6 (by decide)
                have ne_12 := lv_neT (a := 5) k_54_7 (by decide)
                refine lv_tableOut (tgt := 200) hx hb dX3_mark_54 (by omega) (by decide) ?_
                refine lv_iload_n hx hb dX3_mark_200 rfl (lv_at hl 0 rfl) ?_
                exact rw_iret hx hb hr hS hlocks (tr + 1) (show s_X3_mark n hd fi un on tr kind k = (((s_X3_ones (fi k.toNatClampNeg)) + (s_X3_ones (un k.toNatClampNeg))), (tr + 1)) from by (unfold s_X3_mark; (try dsimp only); (try rw [if_neg c_9_1]); (try rw [if_neg c_17_2]); (try rw [if_neg k_54_3]); (try rw [if_neg k_54_4]); (try rw [if_neg k_54_5]); (try rw [if_neg k_54_6]); (try rw [if_neg k_54_7]); first | done | rfl)).symm hP hD dX3_mark_201
    · refine lv_ldc (v := (-1000000)) hx hb hown (hts (.constant RX3 174 (-1000000)) (by decide +kernel)) dX3_mark_20 ?_
      exact rw_iret hx hb hr hS hlocks tr (show s_X3_mark n hd fi un on tr kind k = ((-1000000), tr) from by (unfold s_X3_mark; (try dsimp only); (try rw [if_neg c_9_1]); (try rw [if_pos c_17_2]); first | done | rfl)).symm hP hD dX3_mark_22

