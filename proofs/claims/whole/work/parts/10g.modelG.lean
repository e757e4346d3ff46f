def onP2 {α β γ : Type} (p : α × β) (g : α → β → γ) : γ := g p.1 p.2
theorem onP2_mk {α β γ : Type} (a : α) (b : β) (g : α → β → γ) : onP2 (a, b) g = g a b := rfl

def s_X3_why (n : Nat) (hd : Nat → Int32) (fi : Nat → Int32) (un : Nat → Int32) (may : Int32) (on : Int32) (asd : Int32) (nw : Nat → Int32) (i : Int32) (a : Int32) (what : Int32) : Int32 := (if i < 0 then (-1) else (if (s_X3_in ((a : Int32).toInt64) 0 7) = 0 then (-1) else (if (s_X3_in ((what : Int32).toInt64) 0 1) = 0 then (-1) else (if (s_X3_set n hd fi un may on asd nw i) = (-9) then (-9) else (if (s_X3_has (s_X3_set n hd fi un may on asd nw i) a) = 0 then (-9) else (if what = 0 then (gRd n hd fi un (asd ||| (may &&& (s_X3_set n hd fi un may on asd nw i))) on (s_X3_set n hd fi un may on asd nw i) a) else (gBy n hd fi un (asd ||| (may &&& (s_X3_set n hd fi un may on asd nw i))) on (s_X3_set n hd fi un may on asd nw i) a)))))))
set_option maxHeartbeats 4000000 in
set_option maxRecDepth 100000 in
theorem c_X3_why (l : Launch) (D : va_G) (h : Nat → Nat) (cA : Nat → ClassId) (n : Nat) (hd : Nat → Int32) (fi : Nat → Int32) (un : Nat → Int32) (on : Int32) (may : Int32) (asd : Int32) (tx : Nat → Int32) (td : Int32) (kp : Nat → Int32) (ko : Nat → Int32) (ka : Nat → Int32) (tr : Int64) (pat : Int32) (pfr : Int32) (rhd : Nat → Int32) (rif : Nat → Int32) (rul : Nat → Int32) (prr : Int32) (prm : Int32) (rd : Nat → Int32) (bb : Nat → Int32) (nw : Nat → Int32) (ot : Nat → Int32) (ev : Nat → Int32) (od : Nat → Int32) (i : Int32) (a : Int32) (what : Int32) (hn : n ≤ 10) (hhd : ∀ k : Nat, k < n → ¬ hd k = 8 → vp_in (hd k) 8) (sz : Nat) : Met l yX3_why wsX3_why ({ frames := 5, cells := 0, slots := 0, locals := 118 }) (va_Pc [.ref (h 0), .int i, .int a, .int what] (cPre D (tM h cA) (wM h cA (nI n) hd fi un on may asd tx td kp ko ka tr pat pfr rhd rif rul prr prm rd bb nw ot ev od) sz)) (va_Qi (fun (r : Int32) (u : (Nat → Int32) × (Nat → Int32) × (Nat → Int32)) => r = s_X3_why n hd fi un may on asd nw i a what) (rwB D (fun u : (Nat → Int32) × (Nat → Int32) × (Nat → Int32) => (wM h cA (nI n) hd fi un on may asd tx td kp ko ka tr pat pfr rhd rif rul prr prm u.1 u.2.1 u.2.2 ot ev od)) (va_A (wM h cA (nI n) hd fi un on may asd tx td kp ko ka tr pat pfr rhd rif rul prr prm rd bb nw ot ev od) sz)) (va_A (wM h cA (nI n) hd fi un on may asd tx td kp ko ka tr pat pfr rhd rif rul prr prm rd bb nw ot ev od) sz)) 0 0 (va_A (wM h cA (nI n) hd fi un on may asd tx td kp ko ka tr pat pfr rhd rif rul prr prm rd bb nw ot ev od) sz) := by
  refine Met.ofW (cc := cX3_why) (maxL := 5) (ret := (some .int)) (by decide) rfl ?_
  intro p e s m args below meth c s₁ B hml hv
  obtain ⟨rfl, hsz, hP, hK, hD, hN⟩ := hv
  have hx := B.exec
  have hb := B.bytes
  have hr := B.returns
  have hts := atoms_spec (ws := wsX3_why) B.pre
  have hown : s.vm.findClass RX3 = some m.cls := findClass_of_methodNamed B.named
  have hlocks := B.notSynchronized
  have hinX3 : ∀ w ∈ wsX30, w ∈ wsX3_why := fun w h => List.mem_cons_of_mem _ (List.mem_append_right _ h)
  subst hsz
  replace hD := hD.self (sz := s.heap.size)
  generalize hAe : va_A (wM h cA (nI n) hd fi un on may asd tx td kp ko ka tr pat pfr rhd rif rul prr prm rd bb nw ot ev od) s.heap.size = A at hD ⊢
  have hA : ∀ q : Nat, s.heap.size ≤ q → A q := fun q h => by rw [← hAe]; exact Or.inr h
  have hS : va_S A s.heap s.heap [] := va_S.rf
  have hl := lv_entry ([.ref (h 0), .int i, .int a, .int what]) (n := 5) (Nat.le_of_ble_eq_true rfl)
  rw [lg_entry_eq]
  generalize (lg_sl ([.ref (h 0), .int i, .int a, .int what]) ++ List.replicate (5 - (lg_sl ([.ref (h 0), .int i, .int a, .int what])).length) Slot.unset).toArray = ls at hl ⊢
  replace hl : lv_has ls 5 [(0, .ref (h 0)), (1, .int i), (2, .int a), (3, .int what)] := hl
  have hKe := hK.sub (tys' := []) [] rfl
  refine lv_iload_n hx hb dX3_why_0 rfl (lv_at hl 1 rfl) ?_
  refine lv_if_lt (tgt := 26) hx hb dX3_why_1 (by decide) (fun c_1_1 => ?_) (fun c_1_1 => ?_)
  · refine lv_iconst (v := (-1)) hx hb dX3_why_26 (by decide) ?_
    exact rw_iret hx hb hr hS hlocks (rd, bb, nw) (show s_X3_why n hd fi un may on asd nw i a what = (-1) from by (unfold s_X3_why; (try dsimp only); (try rw [if_pos c_1_1]); first | done | with_reducible rfl)).symm hP hD dX3_why_27
  · refine lv_iload_n hx hb dX3_why_4 rfl (lv_at hl 2 rfl) ?_
    refine lv_i2l hx hb dX3_why_5 rfl ?_
    refine lv_lconst (v := 0) hx hb dX3_why_6 (by decide) ?_
    refine lv_ldc2 (v := 7) hx hb hown (hts (.constantLong RX3 128 (7)) (by decide +kernel)) dX3_why_7 ?_
    refine ro_i (D := D) (va_runS (As := [.long ((a : Int32).toInt64), .long 0, .long 7]) (rest := []) ⟨hx, hb, hml, hown, hts⟩ (c_X3_in l D ((a : Int32).toInt64) 0 7  _) (va_cwS 3 hts gX3_why_X3_in rfl rfl rfl (by decide +kernel) ⟨Nat.le_of_ble_eq_true rfl, Nat.le_of_ble_eq_true rfl⟩) ⟨cPre.blind, cPre.mk vP0 hKe vD0 hN⟩ rfl rfl hl.1 rfl (lv_room (Nat.le_of_ble_eq_true rfl)) dX3_why_10 ⟨Nat.zero_le _, Nat.zero_le _⟩) hS hA (fun H locs hkp0 hS => ?_)
    replace hP := hkp0 _ hP
    refine lv_if_eq (tgt := 26) hx hb dX3_why_13 (by decide) (fun c_13_2 => ?_) (fun c_13_2 => ?_)
    · refine lv_iconst (v := (-1)) hx hb dX3_why_26 (by decide) ?_
      exact rw_iret hx hb hr hS hlocks (rd, bb, nw) (show s_X3_why n hd fi un may on asd nw i a what = (-1) from by (unfold s_X3_why; (try dsimp only); (try rw [if_neg c_1_1]); (try rw [if_pos c_13_2]); first | done | with_reducible rfl)).symm hP hD dX3_why_27
    · refine lv_iload_n hx hb dX3_why_16 rfl (lv_at hl 3 rfl) ?_
      refine lv_i2l hx hb dX3_why_17 rfl ?_
      refine lv_lconst (v := 0) hx hb dX3_why_18 (by decide) ?_
      refine lv_lconst (v := 1) hx hb dX3_why_19 (by decide) ?_
      refine ro_i (D := D) (va_runS (As := [.long ((what : Int32).toInt64), .long 0, .long 1]) (rest := []) ⟨hx, hb, hml, hown, hts⟩ (c_X3_in l D ((what : Int32).toInt64) 0 1  _) (va_cwS 3 hts gX3_why_X3_in rfl rfl rfl (by decide +kernel) ⟨Nat.le_of_ble_eq_true rfl, Nat.le_of_ble_eq_true rfl⟩) ⟨cPre.blind, cPre.mk vP0 hKe vD0 hN⟩ rfl rfl hl.1 rfl (lv_room (Nat.le_of_ble_eq_true rfl)) dX3_why_20 ⟨Nat.zero_le _, Nat.zero_le _⟩) hS hA (fun H locs hkp0 hS => ?_)
      replace hP := hkp0 _ hP
      refine lv_if_ne (tgt := 28) hx hb dX3_why_23 (by decide) (fun c_23_3 => ?_) (fun c_23_3 => ?_)
      · refine lv_aload_n hx hb dX3_why_28 rfl (lv_at hl 0 rfl) ?_
        refine lv_iload_n hx hb dX3_why_29 rfl (lv_at hl 1 rfl) ?_
        have hFc := va_free (wc := (wM h cA (nI n) hd fi un on may asd tx td kp ko ka tr pat pfr rhd rif rul prr prm rd bb nw ot ev od)) hD hS hA [0, 1, 2, 3, 4, 5, 6, 7, 8, 9, 10, 11, 12, 13, 14, 15, 16] rfl
        refine rw_i (D := D) (wc := (wM h cA (nI n) hd fi un on may asd tx td kp ko ka tr pat pfr rhd rif rul prr prm rd bb nw ot ev od)) (va_runV (As := [.int i]) (rest := []) ⟨hx, hb, hml, hown, hts⟩ (c_X3_set l D h cA n hd fi un on may asd tx td kp ko ka tr pat pfr rhd rif rul prr prm rd bb nw ot ev od i (by first | assumption | omega) hhd _) (cwV 1 hts gX3_why_X3_set rfl rfl rfl (by decide +kernel) ⟨Nat.le_of_ble_eq_true rfl, Nat.le_of_ble_eq_true rfl⟩) ⟨cPre.blind, va_recv hK hP (ci := 3) (q0 := 0) rfl rfl, cPre.mk hP hK hD hN⟩ rfl rfl hl.1 rfl (lv_room (Nat.le_of_ble_eq_true rfl)) dX3_why_30 ⟨Nat.zero_le _, Nat.zero_le _⟩) hS hFc (fun rv_7 u H1 locs hw_8 hP1 hD1 hk1 hS => ?_)
        obtain ⟨rdv_4, bbv_5, nwv_6⟩ := u
        try dsimp only at hw_8
        have hP : va_P D vwCl (wM h cA (nI n) hd fi un on may asd tx td kp ko ka tr pat pfr rhd rif rul prr prm rdv_4 bbv_5 nwv_6 ot ev od) H1 := hP1
        have hD : va_D A (wM h cA (nI n) hd fi un on may asd tx td kp ko ka tr pat pfr rhd rif rul prr prm rdv_4 bbv_5 nwv_6 ot ev od) := hD1.weaken (fun k q hk h => hFc _ h)
        clear hP1 hD1 hFc hk1
        generalize H1 = H at hP hS ⊢
        subst hw_8
        refine lv_istore (lv' := [(4, .int (s_X3_set n hd fi un may on asd nw i)), (0, .ref (h 0)), (1, .int i), (2, .int a), (3, .int what)]) hx hb dX3_why_33 hl (by decide) rfl (fun ls hl => ?_)
        refine lv_iload hx hb dX3_why_35 (lv_at hl 0 rfl) ?_
        refine lv_bipush (v := (-9)) hx hb dX3_why_37 (by decide) ?_
        refine lv_icmp_eq (tgt := 51) hx hb dX3_why_39 (by decide) (fun c_39_9 => ?_) (fun c_39_9 => ?_)
        · refine lv_bipush (v := (-9)) hx hb dX3_why_51 (by decide) ?_
          exact rw_iret hx hb hr hS hlocks (rdv_4, bbv_5, nwv_6) (show s_X3_why n hd fi un may on asd nw i a what = (-9) from by (unfold s_X3_why; (try dsimp only); (try rw [if_neg c_1_1]); (try rw [if_neg c_13_2]); (try rw [if_neg c_23_3]); (try rw [if_pos c_39_9]); first | done | with_reducible rfl)).symm hP hD dX3_why_53
        · refine lv_iload hx hb dX3_why_42 (lv_at hl 0 rfl) ?_
          refine lv_iload_n hx hb dX3_why_44 rfl (lv_at hl 3 rfl) ?_
          refine ro_i (D := D) (va_runS (As := [.int (s_X3_set n hd fi un may on asd nw i), .int a]) (rest := []) ⟨hx, hb, hml, hown, hts⟩ (c_X3_has l D (s_X3_set n hd fi un may on asd nw i) a  _) (va_cwS 2 hts gX3_why_X3_has rfl rfl rfl (by decide +kernel) ⟨Nat.le_of_ble_eq_true rfl, Nat.le_of_ble_eq_true rfl⟩) ⟨cPre.blind, cPre.mk vP0 hKe vD0 hN⟩ rfl rfl hl.1 rfl (lv_room (Nat.le_of_ble_eq_true rfl)) dX3_why_45 ⟨Nat.zero_le _, Nat.zero_le _⟩) hS hA (fun H locs hkp0 hS => ?_)
          replace hP := hkp0 _ hP
          refine lv_if_ne (tgt := 54) hx hb dX3_why_48 (by decide) (fun c_48_10 => ?_) (fun c_48_10 => ?_)
          · refine lv_aload_n hx hb dX3_why_54 rfl (lv_at hl 1 rfl) ?_
            refine lv_aload_n hx hb dX3_why_55 rfl (lv_at hl 1 rfl) ?_
            refine va_get (D := D) (ci := 3) (v := .int asd) (C := RX3) (T := TX3) (N := 26) hx hb hts hinX3 hown hK hP 0 rfl rfl 6 (by decide) (hts (.fieldLink RX3 120 "HoldUnlessModel" "assumed" "I") (by decide +kernel)) (fun _ h9 => h9) rfl dX3_why_56 ?_
            refine lv_aload_n hx hb dX3_why_59 rfl (lv_at hl 1 rfl) ?_
            refine va_get (D := D) (ci := 3) (v := .int may) (C := RX3) (T := TX3) (N := 26) hx hb hts hinX3 hown hK hP 0 rfl rfl 5 (by decide) (hts (.fieldLink RX3 117 "HoldUnlessModel" "may" "I") (by decide +kernel)) (fun _ h9 => h9) rfl dX3_why_60 ?_
            refine lv_iload hx hb dX3_why_63 (lv_at hl 0 rfl) ?_
            refine lv_iand hx hb dX3_why_65 ?_
            refine lv_ior hx hb dX3_why_66 ?_
            refine lv_aload_n hx hb dX3_why_67 rfl (lv_at hl 1 rfl) ?_
            refine va_get (D := D) (ci := 3) (v := .int on) (C := RX3) (T := TX3) (N := 26) hx hb hts hinX3 hown hK hP 0 rfl rfl 4 (by decide) (hts (.fieldLink RX3 114 "HoldUnlessModel" "on" "I") (by decide +kernel)) (fun _ h9 => h9) rfl dX3_why_68 ?_
            refine lv_iload hx hb dX3_why_71 (lv_at hl 0 rfl) ?_
            have hFc := va_free (wc := (wM h cA (nI n) hd fi un on may asd tx td kp ko ka tr pat pfr rhd rif rul prr prm rdv_4 bbv_5 nwv_6 ot ev od)) hD hS hA [0, 1, 2, 3, 4, 5, 6, 7, 8, 9, 10, 11, 12, 13, 14, 15, 16] rfl
            refine rw_i (D := D) (wc := (wM h cA (nI n) hd fi un on may asd tx td kp ko ka tr pat pfr rhd rif rul prr prm rdv_4 bbv_5 nwv_6 ot ev od)) (va_runV (As := [.int (asd ||| (may &&& (s_X3_set n hd fi un may on asd nw i))), .int on, .int (s_X3_set n hd fi un may on asd nw i)]) (rest := []) ⟨hx, hb, hml, hown, hts⟩ (c_X3_grows l D h cA n hd fi un on may asd tx td kp ko ka tr pat pfr rhd rif rul prr prm rdv_4 bbv_5 nwv_6 ot ev od (asd ||| (may &&& (s_X3_set n hd fi un may on asd nw i))) on (s_X3_set n hd fi un may on asd nw i) (by first | assumption | omega) hhd _) (cwV 3 hts gX3_why_X3_grows rfl rfl rfl (by decide +kernel) ⟨Nat.le_of_ble_eq_true rfl, Nat.le_of_ble_eq_true rfl⟩) ⟨cPre.blind, va_recv hK hP (ci := 3) (q0 := 0) rfl rfl, cPre.mk hP hK hD hN⟩ rfl rfl hl.1 rfl (lv_room (Nat.le_of_ble_eq_true rfl)) dX3_why_73 ⟨Nat.zero_le _, Nat.zero_le _⟩) hS hFc (fun rv_13 u H1 locs hw_14 hP1 hD1 hk1 hS => ?_)
            obtain ⟨rdv_11, bbv_12⟩ := u
            try dsimp only at hw_14
            have hP : va_P D vwCl (wM h cA (nI n) hd fi un on may asd tx td kp ko ka tr pat pfr rhd rif rul prr prm rdv_11 bbv_12 nwv_6 ot ev od) H1 := hP1
            have hD : va_D A (wM h cA (nI n) hd fi un on may asd tx td kp ko ka tr pat pfr rhd rif rul prr prm rdv_11 bbv_12 nwv_6 ot ev od) := hD1.weaken (fun k q hk h => hFc _ h)
            clear hP1 hD1 hFc hk1
            generalize H1 = H at hP hS ⊢
            refine lv_pop hx hb dX3_why_76 rfl ?_
            refine lv_iload_n hx hb dX3_why_77 rfl (lv_at hl 4 rfl) ?_
            refine lv_if_ne (tgt := 90) hx hb dX3_why_78 (by decide) (fun c_78_15 => ?_) (fun c_78_15 => ?_)
            · refine lv_aload_n hx hb dX3_why_90 rfl (lv_at hl 1 rfl) ?_
              refine va_get (D := D) (ci := 3) (v := .ref (h 12)) (C := RX3) (T := TX3) (N := 26) hx hb hts hinX3 hown hK hP 0 rfl rfl 21 (by decide) (hts (.fieldLink RX3 44 "HoldUnlessModel" "by" "[I") (by decide +kernel)) (fun _ h9 => h9) rfl dX3_why_91 ?_
              refine lv_iload_n hx hb dX3_why_94 rfl (lv_at hl 3 rfl) ?_
              refine va_iald hx hb hK hP 12 11 rfl rfl ((vp_inM (n := 8) (by decide) c_13_2)) dX3_why_95 ?_
              refine lv_cv (gBy_eq hw_14 (vp_inM (n := 8) (by decide) c_13_2)) ?_
              exact rw_iret hx hb hr hS hlocks (rdv_11, bbv_12, nwv_6) (show s_X3_why n hd fi un may on asd nw i a what = (gBy n hd fi un (asd ||| (may &&& (s_X3_set n hd fi un may on asd nw i))) on (s_X3_set n hd fi un may on asd nw i) a) from by (unfold s_X3_why; (try dsimp only); (try rw [if_neg c_1_1]); (try rw [if_neg c_13_2]); (try rw [if_neg c_23_3]); (try rw [if_neg c_39_9]); (try rw [if_neg c_48_10]); (try rw [if_neg c_78_15]); first | done | with_reducible rfl)).symm hP hD dX3_why_96
            · refine lv_aload_n hx hb dX3_why_81 rfl (lv_at hl 1 rfl) ?_
              refine va_get (D := D) (ci := 3) (v := .ref (h 11)) (C := RX3) (T := TX3) (N := 26) hx hb hts hinX3 hown hK hP 0 rfl rfl 20 (by decide) (hts (.fieldLink RX3 41 "HoldUnlessModel" "round" "[I") (by decide +kernel)) (fun _ h9 => h9) rfl dX3_why_82 ?_
              refine lv_iload_n hx hb dX3_why_85 rfl (lv_at hl 3 rfl) ?_
              refine va_iald hx hb hK hP 11 10 rfl rfl ((vp_inM (n := 8) (by decide) c_13_2)) dX3_why_86 ?_
              refine lv_cv (gRd_eq hw_14 (vp_inM (n := 8) (by decide) c_13_2)) ?_
              refine lv_goto (tgt := 96) hx hb dX3_why_87 (by decide) ?_
              exact rw_iret hx hb hr hS hlocks (rdv_11, bbv_12, nwv_6) (show s_X3_why n hd fi un may on asd nw i a what = (gRd n hd fi un (asd ||| (may &&& (s_X3_set n hd fi un may on asd nw i))) on (s_X3_set n hd fi un may on asd nw i) a) from by (unfold s_X3_why; (try dsimp only); (try rw [if_neg c_1_1]); (try rw [if_neg c_13_2]); (try rw [if_neg c_23_3]); (try rw [if_neg c_39_9]); (try rw [if_neg c_48_10]); (try rw [if_pos c_78_15]); first | done | with_reducible rfl)).symm hP hD dX3_why_96
          · refine lv_bipush (v := (-9)) hx hb dX3_why_51 (by decide) ?_
            exact rw_iret hx hb hr hS hlocks (rdv_4, bbv_5, nwv_6) (show s_X3_why n hd fi un may on asd nw i a what = (-9) from by (unfold s_X3_why; (try dsimp only); (try rw [if_neg c_1_1]); (try rw [if_neg c_13_2]); (try rw [if_neg c_23_3]); (try rw [if_neg c_39_9]); (try rw [if_pos c_48_10]); first | done | with_reducible rfl)).symm hP hD dX3_why_53
      · refine lv_iconst (v := (-1)) hx hb dX3_why_26 (by decide) ?_
        exact rw_iret hx hb hr hS hlocks (rd, bb, nw) (show s_X3_why n hd fi un may on asd nw i a what = (-1) from by (unfold s_X3_why; (try dsimp only); (try rw [if_neg c_1_1]); (try rw [if_neg c_13_2]); (try rw [if_pos c_23_3]); first | done | with_reducible rfl)).symm hP hD dX3_why_27

def f_X3_findHangs_149 (ev5 : Nat → Int32) (od5 : Nat → Int32) (j124 : Nat) (j149 : Nat) (st : Int32 × Int32) : Int32 × Int32 := onP2 st (fun e6 o6 => (if (s_X3_has (ev5 j124) (nI j149)) = 0 then (if (s_X3_has (od5 j124) (nI j149)) = 0 then ((e6 ||| (0 ||| 0)), (o6 ||| (0 ||| 0))) else ((e6 ||| (0 ||| (od5 j149))), (o6 ||| (0 ||| (ev5 j149))))) else (if (s_X3_has (od5 j124) (nI j149)) = 0 then ((e6 ||| ((ev5 j149) ||| 0)), (o6 ||| ((od5 j149) ||| 0))) else ((e6 ||| ((ev5 j149) ||| (od5 j149))), (o6 ||| ((od5 j149) ||| (ev5 j149)))))))
def f_X3_findHangs_124  (j124 : Nat) (st : (Nat → Int32) × (Nat → Int32)) : (Nat → Int32) × (Nat → Int32) := onP2 st (fun ev5 od5 => (onP2 (itr (f_X3_findHangs_149 ev5 od5 j124) ((ev5 j124), (od5 j124)) 8) (fun e6 o6 => ((upd ev5 j124 e6), (upd od5 j124 o6)))))
def f_X3_findHangs_116  (j116 : Nat) (st : (Nat → Int32) × (Nat → Int32)) : (Nat → Int32) × (Nat → Int32) := onP2 st (fun ev4 od4 => (onP2 (itr f_X3_findHangs_124 (ev4, od4) 8) (fun ev5 od5 => (ev5, od5))))
def f_X3_findHangs_30 (hd : Nat → Int32) (fi : Nat → Int32) (un : Nat → Int32) (on : Int32) (alone : Int32) (j30 : Nat) (st : (Nat → Int32) × (Nat → Int32)) : (Nat → Int32) × (Nat → Int32) := onP2 st (fun ev3 od3 => (if (s_X3_has on (nI j30)) = 0 then (ev3, od3) else (if (hd j30) = 8 then (ev3, od3) else (if alone = 0 then ((upd ev3 ((hd j30) : Int32).toNatClampNeg ((ev3 ((hd j30) : Int32).toNatClampNeg) ||| (fi j30))), (upd od3 ((hd j30) : Int32).toNatClampNeg ((od3 ((hd j30) : Int32).toNatClampNeg) ||| (un j30)))) else ((upd ev3 ((hd j30) : Int32).toNatClampNeg ((ev3 ((hd j30) : Int32).toNatClampNeg) ||| (fi j30))), (upd od3 ((hd j30) : Int32).toNatClampNeg ((od3 ((hd j30) : Int32).toNatClampNeg) ||| 0)))))))
def f_X3_findHangs_2  (j2 : Nat) (st : (Nat → Int32) × (Nat → Int32)) : (Nat → Int32) × (Nat → Int32) := onP2 st (fun ev2 od2 => ((upd ev2 j2 0), (upd od2 j2 0)))
def s_X3_findHangs (n : Nat) (hd : Nat → Int32) (fi : Nat → Int32) (un : Nat → Int32) (on : Int32) (ev : Nat → Int32) (od : Nat → Int32) (alone : Int32) : (Nat → Int32) × (Nat → Int32) := (onP2 (itr f_X3_findHangs_2 (ev, od) 8) (fun ev2 od2 => (onP2 (itr (f_X3_findHangs_30 hd fi un on alone) (ev2, od2) n) (fun ev3 od3 => (onP2 (itr f_X3_findHangs_116 (ev3, od3) 16) (fun ev4 od4 => (ev4, od4)))))))
set_option maxHeartbeats 4000000 in
set_option maxRecDepth 100000 in
theorem c_X3_findHangs (l : Launch) (D : va_G) (h : Nat → Nat) (cA : Nat → ClassId) (n : Nat) (hd : Nat → Int32) (fi : Nat → Int32) (un : Nat → Int32) (on : Int32) (may : Int32) (asd : Int32) (tx : Nat → Int32) (td : Int32) (kp : Nat → Int32) (ko : Nat → Int32) (ka : Nat → Int32) (tr : Int64) (pat : Int32) (pfr : Int32) (rhd : Nat → Int32) (rif : Nat → Int32) (rul : Nat → Int32) (prr : Int32) (prm : Int32) (rd : Nat → Int32) (bb : Nat → Int32) (nw : Nat → Int32) (ot : Nat → Int32) (ev : Nat → Int32) (od : Nat → Int32) (alone : Int32) (hn : n ≤ 10) (hhd : ∀ k : Nat, k < n → ¬ hd k = 8 → vp_in (hd k) 8) (sz : Nat) : Met l yX3_findHangs wsX3_findHangs ({ frames := 1, cells := 0, slots := 0, locals := 21 }) (va_Pc [.ref (h 0), .int alone] (cPre D (tM h cA) (wM h cA (nI n) hd fi un on may asd tx td kp ko ka tr pat pfr rhd rif rul prr prm rd bb nw ot ev od) sz)) (va_Qv (fun (u : (Nat → Int32) × (Nat → Int32)) => (u.1, u.2) = s_X3_findHangs n hd fi un on ev od alone) (rwB D (fun u : (Nat → Int32) × (Nat → Int32) => (wM h cA (nI n) hd fi un on may asd tx td kp ko ka tr pat pfr rhd rif rul prr prm rd bb nw ot u.1 u.2)) (va_A (wM h cA (nI n) hd fi un on may asd tx td kp ko ka tr pat pfr rhd rif rul prr prm rd bb nw ot ev od) sz)) (va_A (wM h cA (nI n) hd fi un on may asd tx td kp ko ka tr pat pfr rhd rif rul prr prm rd bb nw ot ev od) sz)) 0 0 (va_A (wM h cA (nI n) hd fi un on may asd tx td kp ko ka tr pat pfr rhd rif rul prr prm rd bb nw ot ev od) sz) := by
  refine Met.ofW (cc := cX3_findHangs) (maxL := 7) (ret := none) (by decide) rfl ?_
  intro p e s m args below meth c s₁ B hml hv
  obtain ⟨rfl, hsz, hP, hK, hD, hN⟩ := hv
  have hx := B.exec
  have hb := B.bytes
  have hr := B.returns
  have hts := atoms_spec (ws := wsX3_findHangs) B.pre
  have hown : s.vm.findClass RX3 = some m.cls := findClass_of_methodNamed B.named
  have hlocks := B.notSynchronized
  have hinX3 : ∀ w ∈ wsX30, w ∈ wsX3_findHangs := fun w h => List.mem_cons_of_mem _ (List.mem_append_right _ h)
  subst hsz
  replace hD := hD.self (sz := s.heap.size)
  generalize hAe : va_A (wM h cA (nI n) hd fi un on may asd tx td kp ko ka tr pat pfr rhd rif rul prr prm rd bb nw ot ev od) s.heap.size = A at hD ⊢
  have hA : ∀ q : Nat, s.heap.size ≤ q → A q := fun q h => by rw [← hAe]; exact Or.inr h
  have hS : va_S A s.heap s.heap [] := va_S.rf
  have hl := lv_entry ([.ref (h 0), .int alone]) (n := 7) (Nat.le_of_ble_eq_true rfl)
  rw [lg_entry_eq]
  generalize (lg_sl ([.ref (h 0), .int alone]) ++ List.replicate (7 - (lg_sl ([.ref (h 0), .int alone])).length) Slot.unset).toArray = ls at hl ⊢
  replace hl : lv_has ls 7 [(0, .ref (h 0)), (1, .int alone)] := hl
  have hKe := hK.sub (tys' := []) [] rfl
  refine lv_iconst (v := 0) hx hb dX3_findHangs_0 (by decide) ?_
  refine lv_istore_n (lv' := [(2, .int 0), (0, .ref (h 0)), (1, .int alone)]) hx hb dX3_findHangs_1 rfl hl (by decide) rfl (fun ls hl => ?_)
  have lp2_1 : ∀ (z_1 j2 : Nat), j2 + z_1 = 8 → ∀ (ev2 : Nat → Int32) (od2 : Nat → Int32), (ev2, od2) = itr f_X3_findHangs_2 (ev, od) j2 → ∀  (H : Heap) (locs : List Loc), va_P D vwCl (wM h cA (nI n) hd fi un on may asd tx td kp ko ka tr pat pfr rhd rif rul prr prm rd bb nw ot ev2 od2) H → va_D A (wM h cA (nI n) hd fi un on may asd tx td kp ko ka tr pat pfr rhd rif rul prr prm rd bb nw ot ev2 od2) → va_S A s.heap H locs → ∀ ls : Array Slot, lv_has ls 7 [(0, .ref (h 0)), (1, .int alone), (2, .int (nI j2))] → W p l e (headSpec wsX3_findHangs ({ frames := 1, cells := 0, slots := 0, locals := 21 })).room s m ([.ref (h 0), .int alone] : List Value).toArray below meth c H locs 0 0 (MQ below (va_Qv (fun (u : (Nat → Int32) × (Nat → Int32)) => (u.1, u.2) = s_X3_findHangs n hd fi un on ev od alone) (rwB D (fun u : (Nat → Int32) × (Nat → Int32) => (wM h cA (nI n) hd fi un on may asd tx td kp ko ka tr pat pfr rhd rif rul prr prm rd bb nw ot u.1 u.2)) A) A) ([.ref (h 0), .int alone] : List Value).toArray s 0 0 A) (F0 m 2 ls []) := by
    intro z_1
    induction z_1 with
    | zero =>
      intro j2 hj2 ev2 od2 he2   H locs hP hD hS ls hl
      obtain rfl : 8 = j2 := by omega
      refine lv_iload_n hx hb dX3_findHangs_2 rfl (lv_at hl 2 rfl) ?_
      refine lv_bipush (v := 8) hx hb dX3_findHangs_3 (by decide) ?_
      refine lv_icmp_ge (tgt := 28) hx hb dX3_findHangs_5 (by decide) (fun _ => ?_) (fun hh_3 => absurd (nI_le (a := 8) (b := 8) (by omega) (by omega)) hh_3)
      refine lv_iconst (v := 0) hx hb dX3_findHangs_28 (by decide) ?_
      refine lv_istore_n (lv' := [(2, .int 0), (0, .ref (h 0)), (1, .int alone)]) hx hb dX3_findHangs_29 rfl hl (by decide) rfl (fun ls hl => ?_)
      have lp30_4 : ∀ (z_4 j30 : Nat), j30 + z_4 = n → ∀ (ev3 : Nat → Int32) (od3 : Nat → Int32), (ev3, od3) = itr (f_X3_findHangs_30 hd fi un on alone) (ev2, od2) j30 → ∀  (H : Heap) (locs : List Loc), va_P D vwCl (wM h cA (nI n) hd fi un on may asd tx td kp ko ka tr pat pfr rhd rif rul prr prm rd bb nw ot ev3 od3) H → va_D A (wM h cA (nI n) hd fi un on may asd tx td kp ko ka tr pat pfr rhd rif rul prr prm rd bb nw ot ev3 od3) → va_S A s.heap H locs → ∀ ls : Array Slot, lv_has ls 7 [(0, .ref (h 0)), (1, .int alone), (2, .int (nI j30))] → W p l e (headSpec wsX3_findHangs ({ frames := 1, cells := 0, slots := 0, locals := 21 })).room s m ([.ref (h 0), .int alone] : List Value).toArray below meth c H locs 0 0 (MQ below (va_Qv (fun (u : (Nat → Int32) × (Nat → Int32)) => (u.1, u.2) = s_X3_findHangs n hd fi un on ev od alone) (rwB D (fun u : (Nat → Int32) × (Nat → Int32) => (wM h cA (nI n) hd fi un on may asd tx td kp ko ka tr pat pfr rhd rif rul prr prm rd bb nw ot u.1 u.2)) A) A) ([.ref (h 0), .int alone] : List Value).toArray s 0 0 A) (F0 m 30 ls []) := by
        intro z_4
        induction z_4 with
        | zero =>
          intro j30 hj30 ev3 od3 he30   H locs hP hD hS ls hl
          obtain rfl : n = j30 := by omega
          refine lv_iload_n hx hb dX3_findHangs_30 rfl (lv_at hl 2 rfl) ?_
          refine lv_aload_n hx hb dX3_findHangs_31 rfl (lv_at hl 0 rfl) ?_
          refine va_get (D := D) (ci := 3) (v := .int (nI n)) (C := RX3) (T := TX3) (N := 26) hx hb hts hinX3 hown hK hP 0 rfl rfl 0 (by decide) (hts (.fieldLink RX3 59 "HoldUnlessModel" "rules" "I") (by decide +kernel)) (fun _ h9 => h9) rfl dX3_findHangs_32 ?_
          refine lv_icmp_ge (tgt := 114) hx hb dX3_findHangs_35 (by decide) (fun _ => ?_) (fun hh_6 => absurd (nI_le (a := n) (b := n) (by omega) (by omega)) hh_6)
          refine lv_iconst (v := 0) hx hb dX3_findHangs_114 (by decide) ?_
          refine lv_istore_n (lv' := [(2, .int 0), (0, .ref (h 0)), (1, .int alone)]) hx hb dX3_findHangs_115 rfl hl (by decide) rfl (fun ls hl => ?_)
          have lp116_7 : ∀ (z_7 j116 : Nat), j116 + z_7 = 16 → ∀ (ev4 : Nat → Int32) (od4 : Nat → Int32), (ev4, od4) = itr f_X3_findHangs_116 (ev3, od3) j116 → ∀  (H : Heap) (locs : List Loc), va_P D vwCl (wM h cA (nI n) hd fi un on may asd tx td kp ko ka tr pat pfr rhd rif rul prr prm rd bb nw ot ev4 od4) H → va_D A (wM h cA (nI n) hd fi un on may asd tx td kp ko ka tr pat pfr rhd rif rul prr prm rd bb nw ot ev4 od4) → va_S A s.heap H locs → ∀ ls : Array Slot, lv_has ls 7 [(0, .ref (h 0)), (1, .int alone), (2, .int (nI j116))] → W p l e (headSpec wsX3_findHangs ({ frames := 1, cells := 0, slots := 0, locals := 21 })).room s m ([.ref (h 0), .int alone] : List Value).toArray below meth c H locs 0 0 (MQ below (va_Qv (fun (u : (Nat → Int32) × (Nat → Int32)) => (u.1, u.2) = s_X3_findHangs n hd fi un on ev od alone) (rwB D (fun u : (Nat → Int32) × (Nat → Int32) => (wM h cA (nI n) hd fi un on may asd tx td kp ko ka tr pat pfr rhd rif rul prr prm rd bb nw ot u.1 u.2)) A) A) ([.ref (h 0), .int alone] : List Value).toArray s 0 0 A) (F0 m 116 ls []) := by
            intro z_7
            induction z_7 with
            | zero =>
              intro j116 hj116 ev4 od4 he116   H locs hP hD hS ls hl
              obtain rfl : 16 = j116 := by omega
              refine lv_iload_n hx hb dX3_findHangs_116 rfl (lv_at hl 2 rfl) ?_
              refine lv_bipush (v := 16) hx hb dX3_findHangs_117 (by decide) ?_
              refine lv_icmp_ge (tgt := 302) hx hb dX3_findHangs_119 (by decide) (fun _ => ?_) (fun hh_9 => absurd (nI_le (a := 16) (b := 16) (by omega) (by omega)) hh_9)
              exact rw_vret hx hb hr hS hlocks (ev4, od4) (show s_X3_findHangs n hd fi un on ev od alone = (ev4, od4) from by (unfold s_X3_findHangs; (try rw [← he2]); (try rw [onP2_mk ev2 od2]); (try rw [← he30]); (try rw [onP2_mk ev3 od3]); (try rw [← he116]); (try rw [onP2_mk ev4 od4]); first | done | with_reducible rfl)).symm hP hD dX3_findHangs_302
            | succ z_7 ih116 =>
              intro j116 hj116 ev4 od4 he116   H locs hP hD hS ls hl
              refine lv_iload_n hx hb dX3_findHangs_116 rfl (lv_at hl 2 rfl) ?_
              refine lv_bipush (v := 16) hx hb dX3_findHangs_117 (by decide) ?_
              refine lv_icmp_ge (tgt := 302) hx hb dX3_findHangs_119 (by decide) (fun hh_11 => absurd hh_11 (nI_ge (a := j116) (b := 16) (by omega) (by omega))) (fun _ => ?_)
              refine lv_iconst (v := 0) hx hb dX3_findHangs_122 (by decide) ?_
              refine lv_istore_n (lv' := [(3, .int 0), (0, .ref (h 0)), (1, .int alone), (2, .int (nI j116))]) hx hb dX3_findHangs_123 rfl hl (by decide) rfl (fun ls hl => ?_)
              have lp124_12 : ∀ (z_12 j124 : Nat), j124 + z_12 = 8 → ∀ (ev5 : Nat → Int32) (od5 : Nat → Int32), (ev5, od5) = itr f_X3_findHangs_124 (ev4, od4) j124 → ∀  (H : Heap) (locs : List Loc), va_P D vwCl (wM h cA (nI n) hd fi un on may asd tx td kp ko ka tr pat pfr rhd rif rul prr prm rd bb nw ot ev5 od5) H → va_D A (wM h cA (nI n) hd fi un on may asd tx td kp ko ka tr pat pfr rhd rif rul prr prm rd bb nw ot ev5 od5) → va_S A s.heap H locs → ∀ ls : Array Slot, lv_has ls 7 [(0, .ref (h 0)), (1, .int alone), (2, .int (nI j116)), (3, .int (nI j124))] → W p l e (headSpec wsX3_findHangs ({ frames := 1, cells := 0, slots := 0, locals := 21 })).room s m ([.ref (h 0), .int alone] : List Value).toArray below meth c H locs 0 0 (MQ below (va_Qv (fun (u : (Nat → Int32) × (Nat → Int32)) => (u.1, u.2) = s_X3_findHangs n hd fi un on ev od alone) (rwB D (fun u : (Nat → Int32) × (Nat → Int32) => (wM h cA (nI n) hd fi un on may asd tx td kp ko ka tr pat pfr rhd rif rul prr prm rd bb nw ot u.1 u.2)) A) A) ([.ref (h 0), .int alone] : List Value).toArray s 0 0 A) (F0 m 124 ls []) := by
                intro z_12
                induction z_12 with
                | zero =>
                  intro j124 hj124 ev5 od5 he124   H locs hP hD hS ls hl
                  obtain rfl : 8 = j124 := by omega
                  refine lv_iload_n hx hb dX3_findHangs_124 rfl (lv_at hl 3 rfl) ?_
                  refine lv_bipush (v := 8) hx hb dX3_findHangs_125 (by decide) ?_
                  refine lv_icmp_ge (tgt := 296) hx hb dX3_findHangs_127 (by decide) (fun _ => ?_) (fun hh_14 => absurd (nI_le (a := 8) (b := 8) (by omega) (by omega)) hh_14)
                  refine lv_iinc (v := nI (j116 + 1)) (lv' := [(2, .int (nI (j116 + 1))), (0, .ref (h 0)), (1, .int alone), (3, .int (nI 8))]) hx hb dX3_findHangs_296 hl (k := 2) rfl (inc_nI j116) (by decide) rfl (fun ls hl => ?_)
                  refine lv_goto (tgt := 116) hx hb dX3_findHangs_299 (by decide) ?_
                  exact ih116 (j116 + 1) (by omega) ev5 od5 (itr_step he116 (by (unfold f_X3_findHangs_116; rw [onP2_mk ev4 od4]; (try rw [← he124]); (try rw [onP2_mk ev5 od5]); first | done | with_reducible rfl)))   _ _ hP hD hS _ (lv_sub hl [1, 2, 0] rfl)
                | succ z_12 ih124 =>
                  intro j124 hj124 ev5 od5 he124   H locs hP hD hS ls hl
                  refine lv_iload_n hx hb dX3_findHangs_124 rfl (lv_at hl 3 rfl) ?_
                  refine lv_bipush (v := 8) hx hb dX3_findHangs_125 (by decide) ?_
                  refine lv_icmp_ge (tgt := 296) hx hb dX3_findHangs_127 (by decide) (fun hh_16 => absurd hh_16 (nI_ge (a := j124) (b := 8) (by omega) (by omega))) (fun _ => ?_)
                  refine lv_aload_n hx hb dX3_findHangs_130 rfl (lv_at hl 0 rfl) ?_
                  refine va_get (D := D) (ci := 3) (v := .ref (h 15)) (C := RX3) (T := TX3) (N := 26) hx hb hts hinX3 hown hK hP 0 rfl rfl 24 (by decide) (hts (.fieldLink RX3 53 "HoldUnlessModel" "even" "[I") (by decide +kernel)) (fun _ h9 => h9) rfl dX3_findHangs_131 ?_
                  refine lv_iload_n hx hb dX3_findHangs_134 rfl (lv_at hl 3 rfl) ?_
                  refine wa_ild hx hb hK hP 15 14 rfl rfl j124 rfl (by omega) (by decide) dX3_findHangs_135 ?_
                  refine lv_istore (lv' := [(4, .int (ev5 j124)), (0, .ref (h 0)), (1, .int alone), (2, .int (nI j116)), (3, .int (nI j124))]) hx hb dX3_findHangs_136 hl (by decide) rfl (fun ls hl => ?_)
                  refine lv_aload_n hx hb dX3_findHangs_138 rfl (lv_at hl 1 rfl) ?_
                  refine va_get (D := D) (ci := 3) (v := .ref (h 16)) (C := RX3) (T := TX3) (N := 26) hx hb hts hinX3 hown hK hP 0 rfl rfl 25 (by decide) (hts (.fieldLink RX3 56 "HoldUnlessModel" "odd" "[I") (by decide +kernel)) (fun _ h9 => h9) rfl dX3_findHangs_139 ?_
                  refine lv_iload_n hx hb dX3_findHangs_142 rfl (lv_at hl 4 rfl) ?_
                  refine wa_ild hx hb hK hP 16 15 rfl rfl j124 rfl (by omega) (by decide) dX3_findHangs_143 ?_
                  refine lv_istore (lv' := [(5, .int (od5 j124)), (4, .int (ev5 j124)), (0, .ref (h 0)), (1, .int alone), (2, .int (nI j116)), (3, .int (nI j124))]) hx hb dX3_findHangs_144 hl (by decide) rfl (fun ls hl => ?_)
                  refine lv_iconst (v := 0) hx hb dX3_findHangs_146 (by decide) ?_
                  refine lv_istore (lv' := [(6, .int 0), (5, .int (od5 j124)), (4, .int (ev5 j124)), (0, .ref (h 0)), (1, .int alone), (2, .int (nI j116)), (3, .int (nI j124))]) hx hb dX3_findHangs_147 hl (by decide) rfl (fun ls hl => ?_)
                  have lp149_17 : ∀ (z_17 j149 : Nat), j149 + z_17 = 8 → ∀ (e6 : Int32) (o6 : Int32), (e6, o6) = itr (f_X3_findHangs_149 ev5 od5 j124) ((ev5 j124), (od5 j124)) j149 → ∀  (H : Heap) (locs : List Loc), va_P D vwCl (wM h cA (nI n) hd fi un on may asd tx td kp ko ka tr pat pfr rhd rif rul prr prm rd bb nw ot ev5 od5) H → va_D A (wM h cA (nI n) hd fi un on may asd tx td kp ko ka tr pat pfr rhd rif rul prr prm rd bb nw ot ev5 od5) → va_S A s.heap H locs → ∀ ls : Array Slot, lv_has ls 7 [(0, .ref (h 0)), (1, .int alone), (2, .int (nI j116)), (3, .int (nI j124)), (4, .int e6), (5, .int o6), (6, .int (nI j149))] → W p l e (headSpec wsX3_findHangs ({ frames := 1, cells := 0, slots := 0, locals := 21 })).room s m ([.ref (h 0), .int alone] : List Value).toArray below meth c H locs 0 0 (MQ below (va_Qv (fun (u : (Nat → Int32) × (Nat → Int32)) => (u.1, u.2) = s_X3_findHangs n hd fi un on ev od alone) (rwB D (fun u : (Nat → Int32) × (Nat → Int32) => (wM h cA (nI n) hd fi un on may asd tx td kp ko ka tr pat pfr rhd rif rul prr prm rd bb nw ot u.1 u.2)) A) A) ([.ref (h 0), .int alone] : List Value).toArray s 0 0 A) (F0 m 149 ls []) := by
                    intro z_17
                    induction z_17 with
                    | zero =>
                      intro j149 hj149 e6 o6 he149   H locs hP hD hS ls hl
                      obtain rfl : 8 = j149 := by omega
                      refine lv_iload hx hb dX3_findHangs_149 (lv_at hl 6 rfl) ?_
                      refine lv_bipush (v := 8) hx hb dX3_findHangs_151 (by decide) ?_
                      refine lv_icmp_ge (tgt := 274) hx hb dX3_findHangs_153 (by decide) (fun _ => ?_) (fun hh_19 => absurd (nI_le (a := 8) (b := 8) (by omega) (by omega)) hh_19)
                      refine lv_aload_n hx hb dX3_findHangs_274 rfl (lv_at hl 0 rfl) ?_
                      refine va_get (D := D) (ci := 3) (v := .ref (h 15)) (C := RX3) (T := TX3) (N := 26) hx hb hts hinX3 hown hK hP 0 rfl rfl 24 (by decide) (hts (.fieldLink RX3 53 "HoldUnlessModel" "even" "[I") (by decide +kernel)) (fun _ h9 => h9) rfl dX3_findHangs_275 ?_
                      refine lv_iload_n hx hb dX3_findHangs_278 rfl (lv_at hl 3 rfl) ?_
                      refine lv_iload hx hb dX3_findHangs_279 (lv_at hl 4 rfl) ?_
                      refine wa_ist hx hb hK hP hD hS 15 14 rfl rfl j124 rfl (by omega) (by decide) dX3_findHangs_281 (fun H locs hP hD hS => ?_)
                      replace hP : va_P D vwCl (wM h cA (nI n) hd fi un on may asd tx td kp ko ka tr pat pfr rhd rif rul prr prm rd bb nw ot (upd ev5 j124 e6) od5) H := hP
                      replace hD : va_D A (wM h cA (nI n) hd fi un on may asd tx td kp ko ka tr pat pfr rhd rif rul prr prm rd bb nw ot (upd ev5 j124 e6) od5) := hD
                      refine lv_aload_n hx hb dX3_findHangs_282 rfl (lv_at hl 0 rfl) ?_
                      refine va_get (D := D) (ci := 3) (v := .ref (h 16)) (C := RX3) (T := TX3) (N := 26) hx hb hts hinX3 hown hK hP 0 rfl rfl 25 (by decide) (hts (.fieldLink RX3 56 "HoldUnlessModel" "odd" "[I") (by decide +kernel)) (fun _ h9 => h9) rfl dX3_findHangs_283 ?_
                      refine lv_iload_n hx hb dX3_findHangs_286 rfl (lv_at hl 3 rfl) ?_
                      refine lv_iload hx hb dX3_findHangs_287 (lv_at hl 5 rfl) ?_
                      refine wa_ist hx hb hK hP hD hS 16 15 rfl rfl j124 rfl (by omega) (by decide) dX3_findHangs_289 (fun H locs hP hD hS => ?_)
                      replace hP : va_P D vwCl (wM h cA (nI n) hd fi un on may asd tx td kp ko ka tr pat pfr rhd rif rul prr prm rd bb nw ot (upd ev5 j124 e6) (upd od5 j124 o6)) H := hP
                      replace hD : va_D A (wM h cA (nI n) hd fi un on may asd tx td kp ko ka tr pat pfr rhd rif rul prr prm rd bb nw ot (upd ev5 j124 e6) (upd od5 j124 o6)) := hD
                      refine lv_iinc (v := nI (j124 + 1)) (lv' := [(3, .int (nI (j124 + 1))), (0, .ref (h 0)), (1, .int alone), (2, .int (nI j116)), (4, .int e6), (5, .int o6), (6, .int (nI 8))]) hx hb dX3_findHangs_290 hl (k := 3) rfl (inc_nI j124) (by decide) rfl (fun ls hl => ?_)
                      refine lv_goto (tgt := 124) hx hb dX3_findHangs_293 (by decide) ?_
                      exact ih124 (j124 + 1) (by omega) (upd ev5 j124 e6) (upd od5 j124 o6) (itr_step he124 (by (unfold f_X3_findHangs_124; rw [onP2_mk ev5 od5]; (try rw [← he149]); (try rw [onP2_mk e6 o6]); first | done | with_reducible rfl)))   _ _ hP hD hS _ (lv_sub hl [1, 2, 3, 0] rfl)
                    | succ z_17 ih149 =>
                      intro j149 hj149 e6 o6 he149   H locs hP hD hS ls hl
                      refine lv_iload hx hb dX3_findHangs_149 (lv_at hl 6 rfl) ?_
                      refine lv_bipush (v := 8) hx hb dX3_findHangs_151 (by decide) ?_
                      refine lv_icmp_ge (tgt := 274) hx hb dX3_findHangs_153 (by decide) (fun hh_21 => absurd hh_21 (nI_ge (a := j149) (b := 8) (by omega) (by omega))) (fun _ => ?_)
                      refine lv_iload hx hb dX3_findHangs_156 (lv_at hl 4 rfl) ?_
                      refine lv_aload_n hx hb dX3_findHangs_158 rfl (lv_at hl 0 rfl) ?_
                      refine va_get (D := D) (ci := 3) (v := .ref (h 15)) (C := RX3) (T := TX3) (N := 26) hx hb hts hinX3 hown hK hP 0 rfl rfl 24 (by decide) (hts (.fieldLink RX3 53 "HoldUnlessModel" "even" "[I") (by decide +kernel)) (fun _ h9 => h9) rfl dX3_findHangs_159 ?_
                      refine lv_iload_n hx hb dX3_findHangs_162 rfl (lv_at hl 3 rfl) ?_
                      refine wa_ild hx hb hK hP 15 14 rfl rfl j124 rfl (by omega) (by decide) dX3_findHangs_163 ?_
                      refine lv_iload hx hb dX3_findHangs_164 (lv_at hl 6 rfl) ?_
                      refine ro_i (D := D) (va_runS (As := [.int (ev5 j124), .int (nI j149)]) (rest := [.int e6]) ⟨hx, hb, hml, hown, hts⟩ (c_X3_has l D (ev5 j124) (nI j149)  _) (va_cwS 2 hts gX3_findHangs_X3_has rfl rfl rfl (by decide +kernel) ⟨Nat.le_of_ble_eq_true rfl, Nat.le_of_ble_eq_true rfl⟩) ⟨cPre.blind, cPre.mk vP0 hKe vD0 hN⟩ rfl rfl hl.1 rfl (lv_room (Nat.le_of_ble_eq_true rfl)) dX3_findHangs_166 ⟨Nat.zero_le _, Nat.zero_le _⟩) hS hA (fun H locs hkp0 hS => ?_)
                      replace hP := hkp0 _ hP
                      refine lv_if_eq (tgt := 182) hx hb dX3_findHangs_169 (by decide) (fun c_169_22 => ?_) (fun c_169_22 => ?_)
                      · refine lv_iconst (v := 0) hx hb dX3_findHangs_182 (by decide) ?_
                        refine lv_aload_n hx hb dX3_findHangs_183 rfl (lv_at hl 0 rfl) ?_
                        refine va_get (D := D) (ci := 3) (v := .ref (h 16)) (C := RX3) (T := TX3) (N := 26) hx hb hts hinX3 hown hK hP 0 rfl rfl 25 (by decide) (hts (.fieldLink RX3 56 "HoldUnlessModel" "odd" "[I") (by decide +kernel)) (fun _ h9 => h9) rfl dX3_findHangs_184 ?_
                        refine lv_iload_n hx hb dX3_findHangs_187 rfl (lv_at hl 3 rfl) ?_
                        refine wa_ild hx hb hK hP 16 15 rfl rfl j124 rfl (by omega) (by decide) dX3_findHangs_188 ?_
                        refine lv_iload hx hb dX3_findHangs_189 (lv_at hl 6 rfl) ?_
                        refine ro_i (D := D) (va_runS (As := [.int (od5 j124), .int (nI j149)]) (rest := [.int 0, .int e6]) ⟨hx, hb, hml, hown, hts⟩ (c_X3_has l D (od5 j124) (nI j149)  _) (va_cwS 2 hts gX3_findHangs_X3_has rfl rfl rfl (by decide +kernel) ⟨Nat.le_of_ble_eq_true rfl, Nat.le_of_ble_eq_true rfl⟩) ⟨cPre.blind, cPre.mk vP0 hKe vD0 hN⟩ rfl rfl hl.1 rfl (lv_room (Nat.le_of_ble_eq_true rfl)) dX3_findHangs_191 ⟨Nat.zero_le _, Nat.zero_le _⟩) hS hA (fun H locs hkp0 hS => ?_)
                        replace hP := hkp0 _ hP
                        refine lv_if_eq (tgt := 207) hx hb dX3_findHangs_194 (by decide) (fun c_194_23 => ?_) (fun c_194_23 => ?_)
                        · refine lv_iconst (v := 0) hx hb dX3_findHangs_207 (by decide) ?_
                          refine lv_ior hx hb dX3_findHangs_208 ?_
                          refine lv_ior hx hb dX3_findHangs_209 ?_
                          refine lv_istore (lv' := [(4, .int (e6 ||| (0 ||| 0))), (0, .ref (h 0)), (1, .int alone), (2, .int (nI j116)), (3, .int (nI j124)), (5, .int o6), (6, .int (nI j149))]) hx hb dX3_findHangs_210 hl (by decide) rfl (fun ls hl => ?_)
                          refine lv_iload hx hb dX3_findHangs_212 (lv_at hl 5 rfl) ?_
                          refine lv_aload_n hx hb dX3_findHangs_214 rfl (lv_at hl 1 rfl) ?_
                          refine va_get (D := D) (ci := 3) (v := .ref (h 15)) (C := RX3) (T := TX3) (N := 26) hx hb hts hinX3 hown hK hP 0 rfl rfl 24 (by decide) (hts (.fieldLink RX3 53 "HoldUnlessModel" "even" "[I") (by decide +kernel)) (fun _ h9 => h9) rfl dX3_findHangs_215 ?_
                          refine lv_iload_n hx hb dX3_findHangs_218 rfl (lv_at hl 4 rfl) ?_
                          refine wa_ild hx hb hK hP 15 14 rfl rfl j124 rfl (by omega) (by decide) dX3_findHangs_219 ?_
                          refine lv_iload hx hb dX3_findHangs_220 (lv_at hl 6 rfl) ?_
                          refine ro_i (D := D) (va_runS (As := [.int (ev5 j124), .int (nI j149)]) (rest := [.int o6]) ⟨hx, hb, hml, hown, hts⟩ (c_X3_has l D (ev5 j124) (nI j149)  _) (va_cwS 2 hts gX3_findHangs_X3_has rfl rfl rfl (by decide +kernel) ⟨Nat.le_of_ble_eq_true rfl, Nat.le_of_ble_eq_true rfl⟩) ⟨cPre.blind, cPre.mk vP0 hKe vD0 hN⟩ rfl rfl hl.1 rfl (lv_room (Nat.le_of_ble_eq_true rfl)) dX3_findHangs_222 ⟨Nat.zero_le _, Nat.zero_le _⟩) hS hA (fun H locs hkp0 hS => ?_)
                          replace hP := hkp0 _ hP
                          refine lv_if_eq (tgt := 238) hx hb dX3_findHangs_225 (by decide) (fun _ => ?_) (fun hh_25 => absurd c_169_22 hh_25)
                          refine lv_iconst (v := 0) hx hb dX3_findHangs_238 (by decide) ?_
                          refine lv_aload_n hx hb dX3_findHangs_239 rfl (lv_at hl 1 rfl) ?_
                          refine va_get (D := D) (ci := 3) (v := .ref (h 16)) (C := RX3) (T := TX3) (N := 26) hx hb hts hinX3 hown hK hP 0 rfl rfl 25 (by decide) (hts (.fieldLink RX3 56 "HoldUnlessModel" "odd" "[I") (by decide +kernel)) (fun _ h9 => h9) rfl dX3_findHangs_240 ?_
                          refine lv_iload_n hx hb dX3_findHangs_243 rfl (lv_at hl 4 rfl) ?_
                          refine wa_ild hx hb hK hP 16 15 rfl rfl j124 rfl (by omega) (by decide) dX3_findHangs_244 ?_
                          refine lv_iload hx hb dX3_findHangs_245 (lv_at hl 6 rfl) ?_
                          refine ro_i (D := D) (va_runS (As := [.int (od5 j124), .int (nI j149)]) (rest := [.int 0, .int o6]) ⟨hx, hb, hml, hown, hts⟩ (c_X3_has l D (od5 j124) (nI j149)  _) (va_cwS 2 hts gX3_findHangs_X3_has rfl rfl rfl (by decide +kernel) ⟨Nat.le_of_ble_eq_true rfl, Nat.le_of_ble_eq_true rfl⟩) ⟨cPre.blind, cPre.mk vP0 hKe vD0 hN⟩ rfl rfl hl.1 rfl (lv_room (Nat.le_of_ble_eq_true rfl)) dX3_findHangs_247 ⟨Nat.zero_le _, Nat.zero_le _⟩) hS hA (fun H locs hkp0 hS => ?_)
                          replace hP := hkp0 _ hP
                          refine lv_if_eq (tgt := 263) hx hb dX3_findHangs_250 (by decide) (fun _ => ?_) (fun hh_27 => absurd c_194_23 hh_27)
                          refine lv_iconst (v := 0) hx hb dX3_findHangs_263 (by decide) ?_
                          refine lv_ior hx hb dX3_findHangs_264 ?_
                          refine lv_ior hx hb dX3_findHangs_265 ?_
                          refine lv_istore (lv' := [(5, .int (o6 ||| (0 ||| 0))), (4, .int (e6 ||| (0 ||| 0))), (0, .ref (h 0)), (1, .int alone), (2, .int (nI j116)), (3, .int (nI j124)), (6, .int (nI j149))]) hx hb dX3_findHangs_266 hl (by decide) rfl (fun ls hl => ?_)
                          refine lv_iinc (v := nI (j149 + 1)) (lv' := [(6, .int (nI (j149 + 1))), (5, .int (o6 ||| (0 ||| 0))), (4, .int (e6 ||| (0 ||| 0))), (0, .ref (h 0)), (1, .int alone), (2, .int (nI j116)), (3, .int (nI j124))]) hx hb dX3_findHangs_268 hl (k := 6) rfl (inc_nI j149) (by decide) rfl (fun ls hl => ?_)
                          refine lv_goto (tgt := 149) hx hb dX3_findHangs_271 (by decide) ?_
                          exact ih149 (j149 + 1) (by omega) (e6 ||| (0 ||| 0)) (o6 ||| (0 ||| 0)) (itr_step he149 (by (unfold f_X3_findHangs_149; rw [onP2_mk e6 o6]; (try rw [if_pos c_169_22]); (try rw [if_pos c_194_23]); first | done | with_reducible rfl)))   _ _ hP hD hS _ (lv_sub hl [3, 4, 5, 6, 2, 1, 0] rfl)
                        · refine lv_aload_n hx hb dX3_findHangs_197 rfl (lv_at hl 0 rfl) ?_
                          refine va_get (D := D) (ci := 3) (v := .ref (h 16)) (C := RX3) (T := TX3) (N := 26) hx hb hts hinX3 hown hK hP 0 rfl rfl 25 (by decide) (hts (.fieldLink RX3 56 "HoldUnlessModel" "odd" "[I") (by decide +kernel)) (fun _ h9 => h9) rfl dX3_findHangs_198 ?_
                          refine lv_iload hx hb dX3_findHangs_201 (lv_at hl 6 rfl) ?_
                          refine wa_ild hx hb hK hP 16 15 rfl rfl j149 rfl (by omega) (by decide) dX3_findHangs_203 ?_
                          refine lv_goto (tgt := 208) hx hb dX3_findHangs_204 (by decide) ?_
                          refine lv_ior hx hb dX3_findHangs_208 ?_
                          refine lv_ior hx hb dX3_findHangs_209 ?_
                          refine lv_istore (lv' := [(4, .int (e6 ||| (0 ||| (od5 j149)))), (0, .ref (h 0)), (1, .int alone), (2, .int (nI j116)), (3, .int (nI j124)), (5, .int o6), (6, .int (nI j149))]) hx hb dX3_findHangs_210 hl (by decide) rfl (fun ls hl => ?_)
                          refine lv_iload hx hb dX3_findHangs_212 (lv_at hl 5 rfl) ?_
                          refine lv_aload_n hx hb dX3_findHangs_214 rfl (lv_at hl 1 rfl) ?_
                          refine va_get (D := D) (ci := 3) (v := .ref (h 15)) (C := RX3) (T := TX3) (N := 26) hx hb hts hinX3 hown hK hP 0 rfl rfl 24 (by decide) (hts (.fieldLink RX3 53 "HoldUnlessModel" "even" "[I") (by decide +kernel)) (fun _ h9 => h9) rfl dX3_findHangs_215 ?_
                          refine lv_iload_n hx hb dX3_findHangs_218 rfl (lv_at hl 4 rfl) ?_
                          refine wa_ild hx hb hK hP 15 14 rfl rfl j124 rfl (by omega) (by decide) dX3_findHangs_219 ?_
                          refine lv_iload hx hb dX3_findHangs_220 (lv_at hl 6 rfl) ?_
                          refine ro_i (D := D) (va_runS (As := [.int (ev5 j124), .int (nI j149)]) (rest := [.int o6]) ⟨hx, hb, hml, hown, hts⟩ (c_X3_has l D (ev5 j124) (nI j149)  _) (va_cwS 2 hts gX3_findHangs_X3_has rfl rfl rfl (by decide +kernel) ⟨Nat.le_of_ble_eq_true rfl, Nat.le_of_ble_eq_true rfl⟩) ⟨cPre.blind, cPre.mk vP0 hKe vD0 hN⟩ rfl rfl hl.1 rfl (lv_room (Nat.le_of_ble_eq_true rfl)) dX3_findHangs_222 ⟨Nat.zero_le _, Nat.zero_le _⟩) hS hA (fun H locs hkp0 hS => ?_)
                          replace hP := hkp0 _ hP
                          refine lv_if_eq (tgt := 238) hx hb dX3_findHangs_225 (by decide) (fun _ => ?_) (fun hh_29 => absurd c_169_22 hh_29)
                          refine lv_iconst (v := 0) hx hb dX3_findHangs_238 (by decide) ?_
                          refine lv_aload_n hx hb dX3_findHangs_239 rfl (lv_at hl 1 rfl) ?_
                          refine va_get (D := D) (ci := 3) (v := .ref (h 16)) (C := RX3) (T := TX3) (N := 26) hx hb hts hinX3 hown hK hP 0 rfl rfl 25 (by decide) (hts (.fieldLink RX3 56 "HoldUnlessModel" "odd" "[I") (by decide +kernel)) (fun _ h9 => h9) rfl dX3_findHangs_240 ?_
                          refine lv_iload_n hx hb dX3_findHangs_243 rfl (lv_at hl 4 rfl) ?_
                          refine wa_ild hx hb hK hP 16 15 rfl rfl j124 rfl (by omega) (by decide) dX3_findHangs_244 ?_
                          refine lv_iload hx hb dX3_findHangs_245 (lv_at hl 6 rfl) ?_
                          refine ro_i (D := D) (va_runS (As := [.int (od5 j124), .int (nI j149)]) (rest := [.int 0, .int o6]) ⟨hx, hb, hml, hown, hts⟩ (c_X3_has l D (od5 j124) (nI j149)  _) (va_cwS 2 hts gX3_findHangs_X3_has rfl rfl rfl (by decide +kernel) ⟨Nat.le_of_ble_eq_true rfl, Nat.le_of_ble_eq_true rfl⟩) ⟨cPre.blind, cPre.mk vP0 hKe vD0 hN⟩ rfl rfl hl.1 rfl (lv_room (Nat.le_of_ble_eq_true rfl)) dX3_findHangs_247 ⟨Nat.zero_le _, Nat.zero_le _⟩) hS hA (fun H locs hkp0 hS => ?_)
                          replace hP := hkp0 _ hP
                          refine lv_if_eq (tgt := 263) hx hb dX3_findHangs_250 (by decide) (fun hh_31 => absurd hh_31 c_194_23) (fun _ => ?_)
                          refine lv_aload_n hx hb dX3_findHangs_253 rfl (lv_at hl 1 rfl) ?_
                          refine va_get (D := D) (ci := 3) (v := .ref (h 15)) (C := RX3) (T := TX3) (N := 26) hx hb hts hinX3 hown hK hP 0 rfl rfl 24 (by decide) (hts (.fieldLink RX3 53 "HoldUnlessModel" "even" "[I") (by decide +kernel)) (fun _ h9 => h9) rfl dX3_findHangs_254 ?_
                          refine lv_iload hx hb dX3_findHangs_257 (lv_at hl 6 rfl) ?_
                          refine wa_ild hx hb hK hP 15 14 rfl rfl j149 rfl (by omega) (by decide) dX3_findHangs_259 ?_
                          refine lv_goto (tgt := 264) hx hb dX3_findHangs_260 (by decide) ?_
                          refine lv_ior hx hb dX3_findHangs_264 ?_
                          refine lv_ior hx hb dX3_findHangs_265 ?_
                          refine lv_istore (lv' := [(5, .int (o6 ||| (0 ||| (ev5 j149)))), (4, .int (e6 ||| (0 ||| (od5 j149)))), (0, .ref (h 0)), (1, .int alone), (2, .int (nI j116)), (3, .int (nI j124)), (6, .int (nI j149))]) hx hb dX3_findHangs_266 hl (by decide) rfl (fun ls hl => ?_)
                          refine lv_iinc (v := nI (j149 + 1)) (lv' := [(6, .int (nI (j149 + 1))), (5, .int (o6 ||| (0 ||| (ev5 j149)))), (4, .int (e6 ||| (0 ||| (od5 j149)))), (0, .ref (h 0)), (1, .int alone), (2, .int (nI j116)), (3, .int (nI j124))]) hx hb dX3_findHangs_268 hl (k := 6) rfl (inc_nI j149) (by decide) rfl (fun ls hl => ?_)
                          refine lv_goto (tgt := 149) hx hb dX3_findHangs_271 (by decide) ?_
                          exact ih149 (j149 + 1) (by omega) (e6 ||| (0 ||| (od5 j149))) (o6 ||| (0 ||| (ev5 j149))) (itr_step he149 (by (unfold f_X3_findHangs_149; rw [onP2_mk e6 o6]; (try rw [if_pos c_169_22]); (try rw [if_neg c_194_23]); first | done | with_reducible rfl)))   _ _ hP hD hS _ (lv_sub hl [3, 4, 5, 6, 2, 1, 0] rfl)
                      · refine lv_aload_n hx hb dX3_findHangs_172 rfl (lv_at hl 0 rfl) ?_
                        refine va_get (D := D) (ci := 3) (v := .ref (h 15)) (C := RX3) (T := TX3) (N := 26) hx hb hts hinX3 hown hK hP 0 rfl rfl 24 (by decide) (hts (.fieldLink RX3 53 "HoldUnlessModel" "even" "[I") (by decide +kernel)) (fun _ h9 => h9) rfl dX3_findHangs_173 ?_
                        refine lv_iload hx hb dX3_findHangs_176 (lv_at hl 6 rfl) ?_
                        refine wa_ild hx hb hK hP 15 14 rfl rfl j149 rfl (by omega) (by decide) dX3_findHangs_178 ?_
                        refine lv_goto (tgt := 183) hx hb dX3_findHangs_179 (by decide) ?_
                        refine lv_aload_n hx hb dX3_findHangs_183 rfl (lv_at hl 0 rfl) ?_
                        refine va_get (D := D) (ci := 3) (v := .ref (h 16)) (C := RX3) (T := TX3) (N := 26) hx hb hts hinX3 hown hK hP 0 rfl rfl 25 (by decide) (hts (.fieldLink RX3 56 "HoldUnlessModel" "odd" "[I") (by decide +kernel)) (fun _ h9 => h9) rfl dX3_findHangs_184 ?_
                        refine lv_iload_n hx hb dX3_findHangs_187 rfl (lv_at hl 3 rfl) ?_
                        refine wa_ild hx hb hK hP 16 15 rfl rfl j124 rfl (by omega) (by decide) dX3_findHangs_188 ?_
                        refine lv_iload hx hb dX3_findHangs_189 (lv_at hl 6 rfl) ?_
                        refine ro_i (D := D) (va_runS (As := [.int (od5 j124), .int (nI j149)]) (rest := [.int (ev5 j149), .int e6]) ⟨hx, hb, hml, hown, hts⟩ (c_X3_has l D (od5 j124) (nI j149)  _) (va_cwS 2 hts gX3_findHangs_X3_has rfl rfl rfl (by decide +kernel) ⟨Nat.le_of_ble_eq_true rfl, Nat.le_of_ble_eq_true rfl⟩) ⟨cPre.blind, cPre.mk vP0 hKe vD0 hN⟩ rfl rfl hl.1 rfl (lv_room (Nat.le_of_ble_eq_true rfl)) dX3_findHangs_191 ⟨Nat.zero_le _, Nat.zero_le _⟩) hS hA (fun H locs hkp0 hS => ?_)
                        replace hP := hkp0 _ hP
                        refine lv_if_eq (tgt := 207) hx hb dX3_findHangs_194 (by decide) (fun c_194_32 => ?_) (fun c_194_32 => ?_)
                        · refine lv_iconst (v := 0) hx hb dX3_findHangs_207 (by decide) ?_
                          refine lv_ior hx hb dX3_findHangs_208 ?_
                          refine lv_ior hx hb dX3_findHangs_209 ?_
                          refine lv_istore (lv' := [(4, .int (e6 ||| ((ev5 j149) ||| 0))), (0, .ref (h 0)), (1, .int alone), (2, .int (nI j116)), (3, .int (nI j124)), (5, .int o6), (6, .int (nI j149))]) hx hb dX3_findHangs_210 hl (by decide) rfl (fun ls hl => ?_)
                          refine lv_iload hx hb dX3_findHangs_212 (lv_at hl 5 rfl) ?_
                          refine lv_aload_n hx hb dX3_findHangs_214 rfl (lv_at hl 1 rfl) ?_
                          refine va_get (D := D) (ci := 3) (v := .ref (h 15)) (C := RX3) (T := TX3) (N := 26) hx hb hts hinX3 hown hK hP 0 rfl rfl 24 (by decide) (hts (.fieldLink RX3 53 "HoldUnlessModel" "even" "[I") (by decide +kernel)) (fun _ h9 => h9) rfl dX3_findHangs_215 ?_
                          refine lv_iload_n hx hb dX3_findHangs_218 rfl (lv_at hl 4 rfl) ?_
                          refine wa_ild hx hb hK hP 15 14 rfl rfl j124 rfl (by omega) (by decide) dX3_findHangs_219 ?_
                          refine lv_iload hx hb dX3_findHangs_220 (lv_at hl 6 rfl) ?_
                          refine ro_i (D := D) (va_runS (As := [.int (ev5 j124), .int (nI j149)]) (rest := [.int o6]) ⟨hx, hb, hml, hown, hts⟩ (c_X3_has l D (ev5 j124) (nI j149)  _) (va_cwS 2 hts gX3_findHangs_X3_has rfl rfl rfl (by decide +kernel) ⟨Nat.le_of_ble_eq_true rfl, Nat.le_of_ble_eq_true rfl⟩) ⟨cPre.blind, cPre.mk vP0 hKe vD0 hN⟩ rfl rfl hl.1 rfl (lv_room (Nat.le_of_ble_eq_true rfl)) dX3_findHangs_222 ⟨Nat.zero_le _, Nat.zero_le _⟩) hS hA (fun H locs hkp0 hS => ?_)
                          replace hP := hkp0 _ hP
                          refine lv_if_eq (tgt := 238) hx hb dX3_findHangs_225 (by decide) (fun hh_34 => absurd hh_34 c_169_22) (fun _ => ?_)
                          refine lv_aload_n hx hb dX3_findHangs_228 rfl (lv_at hl 1 rfl) ?_
                          refine va_get (D := D) (ci := 3) (v := .ref (h 16)) (C := RX3) (T := TX3) (N := 26) hx hb hts hinX3 hown hK hP 0 rfl rfl 25 (by decide) (hts (.fieldLink RX3 56 "HoldUnlessModel" "odd" "[I") (by decide +kernel)) (fun _ h9 => h9) rfl dX3_findHangs_229 ?_
                          refine lv_iload hx hb dX3_findHangs_232 (lv_at hl 6 rfl) ?_
                          refine wa_ild hx hb hK hP 16 15 rfl rfl j149 rfl (by omega) (by decide) dX3_findHangs_234 ?_
                          refine lv_goto (tgt := 239) hx hb dX3_findHangs_235 (by decide) ?_
                          refine lv_aload_n hx hb dX3_findHangs_239 rfl (lv_at hl 1 rfl) ?_
                          refine va_get (D := D) (ci := 3) (v := .ref (h 16)) (C := RX3) (T := TX3) (N := 26) hx hb hts hinX3 hown hK hP 0 rfl rfl 25 (by decide) (hts (.fieldLink RX3 56 "HoldUnlessModel" "odd" "[I") (by decide +kernel)) (fun _ h9 => h9) rfl dX3_findHangs_240 ?_
                          refine lv_iload_n hx hb dX3_findHangs_243 rfl (lv_at hl 4 rfl) ?_
                          refine wa_ild hx hb hK hP 16 15 rfl rfl j124 rfl (by omega) (by decide) dX3_findHangs_244 ?_
                          refine lv_iload hx hb dX3_findHangs_245 (lv_at hl 6 rfl) ?_
                          refine ro_i (D := D) (va_runS (As := [.int (od5 j124), .int (nI j149)]) (rest := [.int (od5 j149), .int o6]) ⟨hx, hb, hml, hown, hts⟩ (c_X3_has l D (od5 j124) (nI j149)  _) (va_cwS 2 hts gX3_findHangs_X3_has rfl rfl rfl (by decide +kernel) ⟨Nat.le_of_ble_eq_true rfl, Nat.le_of_ble_eq_true rfl⟩) ⟨cPre.blind, cPre.mk vP0 hKe vD0 hN⟩ rfl rfl hl.1 rfl (lv_room (Nat.le_of_ble_eq_true rfl)) dX3_findHangs_247 ⟨Nat.zero_le _, Nat.zero_le _⟩) hS hA (fun H locs hkp0 hS => ?_)
                          replace hP := hkp0 _ hP
                          refine lv_if_eq (tgt := 263) hx hb dX3_findHangs_250 (by decide) (fun _ => ?_) (fun hh_36 => absurd c_194_32 hh_36)
                          refine lv_iconst (v := 0) hx hb dX3_findHangs_263 (by decide) ?_
                          refine lv_ior hx hb dX3_findHangs_264 ?_
                          refine lv_ior hx hb dX3_findHangs_265 ?_
                          refine lv_istore (lv' := [(5, .int (o6 ||| ((od5 j149) ||| 0))), (4, .int (e6 ||| ((ev5 j149) ||| 0))), (0, .ref (h 0)), (1, .int alone), (2, .int (nI j116)), (3, .int (nI j124)), (6, .int (nI j149))]) hx hb dX3_findHangs_266 hl (by decide) rfl (fun ls hl => ?_)
                          refine lv_iinc (v := nI (j149 + 1)) (lv' := [(6, .int (nI (j149 + 1))), (5, .int (o6 ||| ((od5 j149) ||| 0))), (4, .int (e6 ||| ((ev5 j149) ||| 0))), (0, .ref (h 0)), (1, .int alone), (2, .int (nI j116)), (3, .int (nI j124))]) hx hb dX3_findHangs_268 hl (k := 6) rfl (inc_nI j149) (by decide) rfl (fun ls hl => ?_)
                          refine lv_goto (tgt := 149) hx hb dX3_findHangs_271 (by decide) ?_
                          exact ih149 (j149 + 1) (by omega) (e6 ||| ((ev5 j149) ||| 0)) (o6 ||| ((od5 j149) ||| 0)) (itr_step he149 (by (unfold f_X3_findHangs_149; rw [onP2_mk e6 o6]; (try rw [if_neg c_169_22]); (try rw [if_pos c_194_32]); first | done | with_reducible rfl)))   _ _ hP hD hS _ (lv_sub hl [3, 4, 5, 6, 2, 1, 0] rfl)
                        · refine lv_aload_n hx hb dX3_findHangs_197 rfl (lv_at hl 0 rfl) ?_
                          refine va_get (D := D) (ci := 3) (v := .ref (h 16)) (C := RX3) (T := TX3) (N := 26) hx hb hts hinX3 hown hK hP 0 rfl rfl 25 (by decide) (hts (.fieldLink RX3 56 "HoldUnlessModel" "odd" "[I") (by decide +kernel)) (fun _ h9 => h9) rfl dX3_findHangs_198 ?_
                          refine lv_iload hx hb dX3_findHangs_201 (lv_at hl 6 rfl) ?_
                          refine wa_ild hx hb hK hP 16 15 rfl rfl j149 rfl (by omega) (by decide) dX3_findHangs_203 ?_
                          refine lv_goto (tgt := 208) hx hb dX3_findHangs_204 (by decide) ?_
                          refine lv_ior hx hb dX3_findHangs_208 ?_
                          refine lv_ior hx hb dX3_findHangs_209 ?_
                          refine lv_istore (lv' := [(4, .int (e6 ||| ((ev5 j149) ||| (od5 j149)))), (0, .ref (h 0)), (1, .int alone), (2, .int (nI j116)), (3, .int (nI j124)), (5, .int o6), (6, .int (nI j149))]) hx hb dX3_findHangs_210 hl (by decide) rfl (fun ls hl => ?_)
                          refine lv_iload hx hb dX3_findHangs_212 (lv_at hl 5 rfl) ?_
                          refine lv_aload_n hx hb dX3_findHangs_214 rfl (lv_at hl 1 rfl) ?_
                          refine va_get (D := D) (ci := 3) (v := .ref (h 15)) (C := RX3) (T := TX3) (N := 26) hx hb hts hinX3 hown hK hP 0 rfl rfl 24 (by decide) (hts (.fieldLink RX3 53 "HoldUnlessModel" "even" "[I") (by decide +kernel)) (fun _ h9 => h9) rfl dX3_findHangs_215 ?_
                          refine lv_iload_n hx hb dX3_findHangs_218 rfl (lv_at hl 4 rfl) ?_
                          refine wa_ild hx hb hK hP 15 14 rfl rfl j124 rfl (by omega) (by decide) dX3_findHangs_219 ?_
                          refine lv_iload hx hb dX3_findHangs_220 (lv_at hl 6 rfl) ?_
                          refine ro_i (D := D) (va_runS (As := [.int (ev5 j124), .int (nI j149)]) (rest := [.int o6]) ⟨hx, hb, hml, hown, hts⟩ (c_X3_has l D (ev5 j124) (nI j149)  _) (va_cwS 2 hts gX3_findHangs_X3_has rfl rfl rfl (by decide +kernel) ⟨Nat.le_of_ble_eq_true rfl, Nat.le_of_ble_eq_true rfl⟩) ⟨cPre.blind, cPre.mk vP0 hKe vD0 hN⟩ rfl rfl hl.1 rfl (lv_room (Nat.le_of_ble_eq_true rfl)) dX3_findHangs_222 ⟨Nat.zero_le _, Nat.zero_le _⟩) hS hA (fun H locs hkp0 hS => ?_)
                          replace hP := hkp0 _ hP
                          refine lv_if_eq (tgt := 238) hx hb dX3_findHangs_225 (by decide) (fun hh_38 => absurd hh_38 c_169_22) (fun _ => ?_)
                          refine lv_aload_n hx hb dX3_findHangs_228 rfl (lv_at hl 1 rfl) ?_
                          refine va_get (D := D) (ci := 3) (v := .ref (h 16)) (C := RX3) (T := TX3) (N := 26) hx hb hts hinX3 hown hK hP 0 rfl rfl 25 (by decide) (hts (.fieldLink RX3 56 "HoldUnlessModel" "odd" "[I") (by decide +kernel)) (fun _ h9 => h9) rfl dX3_findHangs_229 ?_
                          refine lv_iload hx hb dX3_findHangs_232 (lv_at hl 6 rfl) ?_
                          refine wa_ild hx hb hK hP 16 15 rfl rfl j149 rfl (by omega) (by decide) dX3_findHangs_234 ?_
                          refine lv_goto (tgt := 239) hx hb dX3_findHangs_235 (by decide) ?_
                          refine lv_aload_n hx hb dX3_findHangs_239 rfl (lv_at hl 1 rfl) ?_
                          refine va_get (D := D) (ci := 3) (v := .ref (h 16)) (C := RX3) (T := TX3) (N := 26) hx hb hts hinX3 hown hK hP 0 rfl rfl 25 (by decide) (hts (.fieldLink RX3 56 "HoldUnlessModel" "odd" "[I") (by decide +kernel)) (fun _ h9 => h9) rfl dX3_findHangs_240 ?_
                          refine lv_iload_n hx hb dX3_findHangs_243 rfl (lv_at hl 4 rfl) ?_
                          refine wa_ild hx hb hK hP 16 15 rfl rfl j124 rfl (by omega) (by decide) dX3_findHangs_244 ?_
                          refine lv_iload hx hb dX3_findHangs_245 (lv_at hl 6 rfl) ?_
                          refine ro_i (D := D) (va_runS (As := [.int (od5 j124), .int (nI j149)]) (rest := [.int (od5 j149), .int o6]) ⟨hx, hb, hml, hown, hts⟩ (c_X3_has l D (od5 j124) (nI j149)  _) (va_cwS 2 hts gX3_findHangs_X3_has rfl rfl rfl (by decide +kernel) ⟨Nat.le_of_ble_eq_true rfl, Nat.le_of_ble_eq_true rfl⟩) ⟨cPre.blind, cPre.mk vP0 hKe vD0 hN⟩ rfl rfl hl.1 rfl (lv_room (Nat.le_of_ble_eq_true rfl)) dX3_findHangs_247 ⟨Nat.zero_le _, Nat.zero_le _⟩) hS hA (fun H locs hkp0 hS => ?_)
                          replace hP := hkp0 _ hP
                          refine lv_if_eq (tgt := 263) hx hb dX3_findHangs_250 (by decide) (fun hh_40 => absurd hh_40 c_194_32) (fun _ => ?_)
                          refine lv_aload_n hx hb dX3_findHangs_253 rfl (lv_at hl 1 rfl) ?_
                          refine va_get (D := D) (ci := 3) (v := .ref (h 15)) (C := RX3) (T := TX3) (N := 26) hx hb hts hinX3 hown hK hP 0 rfl rfl 24 (by decide) (hts (.fieldLink RX3 53 "HoldUnlessModel" "even" "[I") (by decide +kernel)) (fun _ h9 => h9) rfl dX3_findHangs_254 ?_
                          refine lv_iload hx hb dX3_findHangs_257 (lv_at hl 6 rfl) ?_
                          refine wa_ild hx hb hK hP 15 14 rfl rfl j149 rfl (by omega) (by decide) dX3_findHangs_259 ?_
                          refine lv_goto (tgt := 264) hx hb dX3_findHangs_260 (by decide) ?_
                          refine lv_ior hx hb dX3_findHangs_264 ?_
                          refine lv_ior hx hb dX3_findHangs_265 ?_
                          refine lv_istore (lv' := [(5, .int (o6 ||| ((od5 j149) ||| (ev5 j149)))), (4, .int (e6 ||| ((ev5 j149) ||| (od5 j149)))), (0, .ref (h 0)), (1, .int alone), (2, .int (nI j116)), (3, .int (nI j124)), (6, .int (nI j149))]) hx hb dX3_findHangs_266 hl (by decide) rfl (fun ls hl => ?_)
                          refine lv_iinc (v := nI (j149 + 1)) (lv' := [(6, .int (nI (j149 + 1))), (5, .int (o6 ||| ((od5 j149) ||| (ev5 j149)))), (4, .int (e6 ||| ((ev5 j149) ||| (od5 j149)))), (0, .ref (h 0)), (1, .int alone), (2, .int (nI j116)), (3, .int (nI j124))]) hx hb dX3_findHangs_268 hl (k := 6) rfl (inc_nI j149) (by decide) rfl (fun ls hl => ?_)
                          refine lv_goto (tgt := 149) hx hb dX3_findHangs_271 (by decide) ?_
                          exact ih149 (j149 + 1) (by omega) (e6 ||| ((ev5 j149) ||| (od5 j149))) (o6 ||| ((od5 j149) ||| (ev5 j149))) (itr_step he149 (by (unfold f_X3_findHangs_149; rw [onP2_mk e6 o6]; (try rw [if_neg c_169_22]); (try rw [if_neg c_194_32]); first | done | with_reducible rfl)))   _ _ hP hD hS _ (lv_sub hl [3, 4, 5, 6, 2, 1, 0] rfl)
                  exact lp149_17 8 0 (by omega) (ev5 j124) (od5 j124) (itr_zero _ _).symm   _ _ hP hD hS _ (lv_sub hl [3, 4, 5, 6, 2, 1, 0] rfl)
              exact lp124_12 8 0 (by omega) ev4 od4 (itr_zero _ _).symm   _ _ hP hD hS _ (lv_sub hl [1, 2, 3, 0] rfl)
          exact lp116_7 16 0 (by omega) ev3 od3 (itr_zero _ _).symm   _ _ hP hD hS _ (lv_sub hl [1, 2, 0] rfl)
        | succ z_4 ih30 =>
          intro j30 hj30 ev3 od3 he30   H locs hP hD hS ls hl
          refine lv_iload_n hx hb dX3_findHangs_30 rfl (lv_at hl 2 rfl) ?_
          refine lv_aload_n hx hb dX3_findHangs_31 rfl (lv_at hl 0 rfl) ?_
          refine va_get (D := D) (ci := 3) (v := .int (nI n)) (C := RX3) (T := TX3) (N := 26) hx hb hts hinX3 hown hK hP 0 rfl rfl 0 (by decide) (hts (.fieldLink RX3 59 "HoldUnlessModel" "rules" "I") (by decide +kernel)) (fun _ h9 => h9) rfl dX3_findHangs_32 ?_
          refine lv_icmp_ge (tgt := 114) hx hb dX3_findHangs_35 (by decide) (fun hh_42 => absurd hh_42 (nI_ge (a := j30) (b := n) (by omega) (by omega))) (fun _ => ?_)
          refine lv_aload_n hx hb dX3_findHangs_38 rfl (lv_at hl 0 rfl) ?_
          refine va_get (D := D) (ci := 3) (v := .int on) (C := RX3) (T := TX3) (N := 26) hx hb hts hinX3 hown hK hP 0 rfl rfl 4 (by decide) (hts (.fieldLink RX3 114 "HoldUnlessModel" "on" "I") (by decide +kernel)) (fun _ h9 => h9) rfl dX3_findHangs_39 ?_
          refine lv_iload_n hx hb dX3_findHangs_42 rfl (lv_at hl 2 rfl) ?_
          refine ro_i (D := D) (va_runS (As := [.int on, .int (nI j30)]) (rest := []) ⟨hx, hb, hml, hown, hts⟩ (c_X3_has l D on (nI j30)  _) (va_cwS 2 hts gX3_findHangs_X3_has rfl rfl rfl (by decide +kernel) ⟨Nat.le_of_ble_eq_true rfl, Nat.le_of_ble_eq_true rfl⟩) ⟨cPre.blind, cPre.mk vP0 hKe vD0 hN⟩ rfl rfl hl.1 rfl (lv_room (Nat.le_of_ble_eq_true rfl)) dX3_findHangs_43 ⟨Nat.zero_le _, Nat.zero_le _⟩) hS hA (fun H locs hkp0 hS => ?_)
          replace hP := hkp0 _ hP
          refine lv_if_eq (tgt := 108) hx hb dX3_findHangs_46 (by decide) (fun c_46_43 => ?_) (fun c_46_43 => ?_)
          · refine lv_iinc (v := nI (j30 + 1)) (lv' := [(2, .int (nI (j30 + 1))), (0, .ref (h 0)), (1, .int alone)]) hx hb dX3_findHangs_108 hl (k := 2) rfl (inc_nI j30) (by decide) rfl (fun ls hl => ?_)
            refine lv_goto (tgt := 30) hx hb dX3_findHangs_111 (by decide) ?_
            exact ih30 (j30 + 1) (by omega) ev3 od3 (itr_step he30 (by (unfold f_X3_findHangs_30; rw [onP2_mk ev3 od3]; (try rw [if_pos c_46_43]); first | done | with_reducible rfl)))   _ _ hP hD hS _ (lv_sub hl [1, 2, 0] rfl)
          · refine lv_aload_n hx hb dX3_findHangs_49 rfl (lv_at hl 0 rfl) ?_
            refine va_get (D := D) (ci := 3) (v := .ref (h 1)) (C := RX3) (T := TX3) (N := 26) hx hb hts hinX3 hown hK hP 0 rfl rfl 1 (by decide) (hts (.fieldLink RX3 7 "HoldUnlessModel" "head" "[I") (by decide +kernel)) (fun _ h9 => h9) rfl dX3_findHangs_50 ?_
            refine lv_iload_n hx hb dX3_findHangs_53 rfl (lv_at hl 2 rfl) ?_
            refine wa_ild hx hb hK hP 1 0 rfl rfl j30 rfl (by omega) (by decide) dX3_findHangs_54 ?_
            refine lv_bipush (v := 8) hx hb dX3_findHangs_55 (by decide) ?_
            refine lv_icmp_eq (tgt := 108) hx hb dX3_findHangs_57 (by decide) (fun c_57_44 => ?_) (fun c_57_44 => ?_)
            · refine lv_iinc (v := nI (j30 + 1)) (lv' := [(2, .int (nI (j30 + 1))), (0, .ref (h 0)), (1, .int alone)]) hx hb dX3_findHangs_108 hl (k := 2) rfl (inc_nI j30) (by decide) rfl (fun ls hl => ?_)
              refine lv_goto (tgt := 30) hx hb dX3_findHangs_111 (by decide) ?_
              exact ih30 (j30 + 1) (by omega) ev3 od3 (itr_step he30 (by (unfold f_X3_findHangs_30; rw [onP2_mk ev3 od3]; (try rw [if_neg c_46_43]); (try rw [if_pos c_57_44]); first | done | with_reducible rfl)))   _ _ hP hD hS _ (lv_sub hl [1, 2, 0] rfl)
            · refine lv_aload_n hx hb dX3_findHangs_60 rfl (lv_at hl 0 rfl) ?_
              refine va_get (D := D) (ci := 3) (v := .ref (h 15)) (C := RX3) (T := TX3) (N := 26) hx hb hts hinX3 hown hK hP 0 rfl rfl 24 (by decide) (hts (.fieldLink RX3 53 "HoldUnlessModel" "even" "[I") (by decide +kernel)) (fun _ h9 => h9) rfl dX3_findHangs_61 ?_
              refine lv_aload_n hx hb dX3_findHangs_64 rfl (lv_at hl 0 rfl) ?_
              refine va_get (D := D) (ci := 3) (v := .ref (h 1)) (C := RX3) (T := TX3) (N := 26) hx hb hts hinX3 hown hK hP 0 rfl rfl 1 (by decide) (hts (.fieldLink RX3 7 "HoldUnlessModel" "head" "[I") (by decide +kernel)) (fun _ h9 => h9) rfl dX3_findHangs_65 ?_
              refine lv_iload_n hx hb dX3_findHangs_68 rfl (lv_at hl 2 rfl) ?_
              refine wa_ild hx hb hK hP 1 0 rfl rfl j30 rfl (by omega) (by decide) dX3_findHangs_69 ?_
              refine lv_dup2_11 hx hb dX3_findHangs_70 rfl rfl ?_
              refine va_iald hx hb hK hP 15 14 rfl rfl ((hhd j30 (by omega) c_57_44)) dX3_findHangs_71 ?_
              refine lv_aload_n hx hb dX3_findHangs_72 rfl (lv_at hl 0 rfl) ?_
              refine va_get (D := D) (ci := 3) (v := .ref (h 2)) (C := RX3) (T := TX3) (N := 26) hx hb hts hinX3 hown hK hP 0 rfl rfl 2 (by decide) (hts (.fieldLink RX3 13 "HoldUnlessModel" "ifs" "[I") (by decide +kernel)) (fun _ h9 => h9) rfl dX3_findHangs_73 ?_
              refine lv_iload_n hx hb dX3_findHangs_76 rfl (lv_at hl 2 rfl) ?_
              refine wa_ild hx hb hK hP 2 1 rfl rfl j30 rfl (by omega) (by decide) dX3_findHangs_77 ?_
              refine lv_ior hx hb dX3_findHangs_78 ?_
              refine va_iast hx hb hK hP hD hS 15 14 rfl rfl ((hhd j30 (by omega) c_57_44)) dX3_findHangs_79 (fun H locs hP hD hS => ?_)
              replace hP : va_P D vwCl (wM h cA (nI n) hd fi un on may asd tx td kp ko ka tr pat pfr rhd rif rul prr prm rd bb nw ot (upd ev3 ((hd j30) : Int32).toNatClampNeg ((ev3 ((hd j30) : Int32).toNatClampNeg) ||| (fi j30))) od3) H := hP
              replace hD : va_D A (wM h cA (nI n) hd fi un on may asd tx td kp ko ka tr pat pfr rhd rif rul prr prm rd bb nw ot (upd ev3 ((hd j30) : Int32).toNatClampNeg ((ev3 ((hd j30) : Int32).toNatClampNeg) ||| (fi j30))) od3) := hD
              refine lv_aload_n hx hb dX3_findHangs_80 rfl (lv_at hl 0 rfl) ?_
              refine va_get (D := D) (ci := 3) (v := .ref (h 16)) (C := RX3) (T := TX3) (N := 26) hx hb hts hinX3 hown hK hP 0 rfl rfl 25 (by decide) (hts (.fieldLink RX3 56 "HoldUnlessModel" "odd" "[I") (by decide +kernel)) (fun _ h9 => h9) rfl dX3_findHangs_81 ?_
              refine lv_aload_n hx hb dX3_findHangs_84 rfl (lv_at hl 0 rfl) ?_
              refine va_get (D := D) (ci := 3) (v := .ref (h 1)) (C := RX3) (T := TX3) (N := 26) hx hb hts hinX3 hown hK hP 0 rfl rfl 1 (by decide) (hts (.fieldLink RX3 7 "HoldUnlessModel" "head" "[I") (by decide +kernel)) (fun _ h9 => h9) rfl dX3_findHangs_85 ?_
              refine lv_iload_n hx hb dX3_findHangs_88 rfl (lv_at hl 2 rfl) ?_
              refine wa_ild hx hb hK hP 1 0 rfl rfl j30 rfl (by omega) (by decide) dX3_findHangs_89 ?_
              refine lv_dup2_11 hx hb dX3_findHangs_90 rfl rfl ?_
              refine va_iald hx hb hK hP 16 15 rfl rfl ((hhd j30 (by omega) c_57_44)) dX3_findHangs_91 ?_
              refine lv_iload_n hx hb dX3_findHangs_92 rfl (lv_at hl 1 rfl) ?_
              refine lv_if_eq (tgt := 100) hx hb dX3_findHangs_93 (by decide) (fun c_93_45 => ?_) (fun c_93_45 => ?_)
              · refine lv_aload_n hx hb dX3_findHangs_100 rfl (lv_at hl 0 rfl) ?_
                refine va_get (D := D) (ci := 3) (v := .ref (h 3)) (C := RX3) (T := TX3) (N := 26) hx hb hts hinX3 hown hK hP 0 rfl rfl 3 (by decide) (hts (.fieldLink RX3 16 "HoldUnlessModel" "unless" "[I") (by decide +kernel)) (fun _ h9 => h9) rfl dX3_findHangs_101 ?_
                refine lv_iload_n hx hb dX3_findHangs_104 rfl (lv_at hl 2 rfl) ?_
                refine wa_ild hx hb hK hP 3 2 rfl rfl j30 rfl (by omega) (by decide) dX3_findHangs_105 ?_
                refine lv_ior hx hb dX3_findHangs_106 ?_
                refine va_iast hx hb hK hP hD hS 16 15 rfl rfl ((hhd j30 (by omega) c_57_44)) dX3_findHangs_107 (fun H locs hP hD hS => ?_)
                replace hP : va_P D vwCl (wM h cA (nI n) hd fi un on may asd tx td kp ko ka tr pat pfr rhd rif rul prr prm rd bb nw ot (upd ev3 ((hd j30) : Int32).toNatClampNeg ((ev3 ((hd j30) : Int32).toNatClampNeg) ||| (fi j30))) (upd od3 ((hd j30) : Int32).toNatClampNeg ((od3 ((hd j30) : Int32).toNatClampNeg) ||| (un j30)))) H := hP
                replace hD : va_D A (wM h cA (nI n) hd fi un on may asd tx td kp ko ka tr pat pfr rhd rif rul prr prm rd bb nw ot (upd ev3 ((hd j30) : Int32).toNatClampNeg ((ev3 ((hd j30) : Int32).toNatClampNeg) ||| (fi j30))) (upd od3 ((hd j30) : Int32).toNatClampNeg ((od3 ((hd j30) : Int32).toNatClampNeg) ||| (un j30)))) := hD
                refine lv_iinc (v := nI (j30 + 1)) (lv' := [(2, .int (nI (j30 + 1))), (0, .ref (h 0)), (1, .int alone)]) hx hb dX3_findHangs_108 hl (k := 2) rfl (inc_nI j30) (by decide) rfl (fun ls hl => ?_)
                refine lv_goto (tgt := 30) hx hb dX3_findHangs_111 (by decide) ?_
                exact ih30 (j30 + 1) (by omega) (upd ev3 ((hd j30) : Int32).toNatClampNeg ((ev3 ((hd j30) : Int32).toNatClampNeg) ||| (fi j30))) (upd od3 ((hd j30) : Int32).toNatClampNeg ((od3 ((hd j30) : Int32).toNatClampNeg) ||| (un j30))) (itr_step he30 (by (unfold f_X3_findHangs_30; rw [onP2_mk ev3 od3]; (try rw [if_neg c_46_43]); (try rw [if_neg c_57_44]); (try rw [if_pos c_93_45]); first | done | with_reducible rfl)))   _ _ hP hD hS _ (lv_sub hl [1, 2, 0] rfl)
              · refine lv_iconst (v := 0) hx hb dX3_findHangs_96 (by decide) ?_
                refine lv_goto (tgt := 106) hx hb dX3_findHangs_97 (by decide) ?_
                refine lv_ior hx hb dX3_findHangs_106 ?_
                refine va_iast hx hb hK hP hD hS 16 15 rfl rfl ((hhd j30 (by omega) c_57_44)) dX3_findHangs_107 (fun H locs hP hD hS => ?_)
                replace hP : va_P D vwCl (wM h cA (nI n) hd fi un on may asd tx td kp ko ka tr pat pfr rhd rif rul prr prm rd bb nw ot (upd ev3 ((hd j30) : Int32).toNatClampNeg ((ev3 ((hd j30) : Int32).toNatClampNeg) ||| (fi j30))) (upd od3 ((hd j30) : Int32).toNatClampNeg ((od3 ((hd j30) : Int32).toNatClampNeg) ||| 0))) H := hP
                replace hD : va_D A (wM h cA (nI n) hd fi un on may asd tx td kp ko ka tr pat pfr rhd rif rul prr prm rd bb nw ot (upd ev3 ((hd j30) : Int32).toNatClampNeg ((ev3 ((hd j30) : Int32).toNatClampNeg) ||| (fi j30))) (upd od3 ((hd j30) : Int32).toNatClampNeg ((od3 ((hd j30) : Int32).toNatClampNeg) ||| 0))) := hD
                refine lv_iinc (v := nI (j30 + 1)) (lv' := [(2, .int (nI (j30 + 1))), (0, .ref (h 0)), (1, .int alone)]) hx hb dX3_findHangs_108 hl (k := 2) rfl (inc_nI j30) (by decide) rfl (fun ls hl => ?_)
                refine lv_goto (tgt := 30) hx hb dX3_findHangs_111 (by decide) ?_
                exact ih30 (j30 + 1) (by omega) (upd ev3 ((hd j30) : Int32).toNatClampNeg ((ev3 ((hd j30) : Int32).toNatClampNeg) ||| (fi j30))) (upd od3 ((hd j30) : Int32).toNatClampNeg ((od3 ((hd j30) : Int32).toNatClampNeg) ||| 0)) (itr_step he30 (by (unfold f_X3_findHangs_30; rw [onP2_mk ev3 od3]; (try rw [if_neg c_46_43]); (try rw [if_neg c_57_44]); (try rw [if_neg c_93_45]); first | done | with_reducible rfl)))   _ _ hP hD hS _ (lv_sub hl [1, 2, 0] rfl)
      exact lp30_4 n 0 (by omega) ev2 od2 (itr_zero _ _).symm   _ _ hP hD hS _ (lv_sub hl [1, 2, 0] rfl)
    | succ z_1 ih2 =>
      intro j2 hj2 ev2 od2 he2   H locs hP hD hS ls hl
      refine lv_iload_n hx hb dX3_findHangs_2 rfl (lv_at hl 2 rfl) ?_
      refine lv_bipush (v := 8) hx hb dX3_findHangs_3 (by decide) ?_
      refine lv_icmp_ge (tgt := 28) hx hb dX3_findHangs_5 (by decide) (fun hh_47 => absurd hh_47 (nI_ge (a := j2) (b := 8) (by omega) (by omega))) (fun _ => ?_)
      refine lv_aload_n hx hb dX3_findHangs_8 rfl (lv_at hl 0 rfl) ?_
      refine va_get (D := D) (ci := 3) (v := .ref (h 15)) (C := RX3) (T := TX3) (N := 26) hx hb hts hinX3 hown hK hP 0 rfl rfl 24 (by decide) (hts (.fieldLink RX3 53 "HoldUnlessModel" "even" "[I") (by decide +kernel)) (fun _ h9 => h9) rfl dX3_findHangs_9 ?_
      refine lv_iload_n hx hb dX3_findHangs_12 rfl (lv_at hl 2 rfl) ?_
      refine lv_iconst (v := 0) hx hb dX3_findHangs_13 (by decide) ?_
      refine wa_ist hx hb hK hP hD hS 15 14 rfl rfl j2 rfl (by omega) (by decide) dX3_findHangs_14 (fun H locs hP hD hS => ?_)
      replace hP : va_P D vwCl (wM h cA (nI n) hd fi un on may asd tx td kp ko ka tr pat pfr rhd rif rul prr prm rd bb nw ot (upd ev2 j2 0) od2) H := hP
      replace hD : va_D A (wM h cA (nI n) hd fi un on may asd tx td kp ko ka tr pat pfr rhd rif rul prr prm rd bb nw ot (upd ev2 j2 0) od2) := hD
      refine lv_aload_n hx hb dX3_findHangs_15 rfl (lv_at hl 0 rfl) ?_
      refine va_get (D := D) (ci := 3) (v := .ref (h 16)) (C := RX3) (T := TX3) (N := 26) hx hb hts hinX3 hown hK hP 0 rfl rfl 25 (by decide) (hts (.fieldLink RX3 56 "HoldUnlessModel" "odd" "[I") (by decide +kernel)) (fun _ h9 => h9) rfl dX3_findHangs_16 ?_
      refine lv_iload_n hx hb dX3_findHangs_19 rfl (lv_at hl 2 rfl) ?_
      refine lv_iconst (v := 0) hx hb dX3_findHangs_20 (by decide) ?_
      refine wa_ist hx hb hK hP hD hS 16 15 rfl rfl j2 rfl (by omega) (by decide) dX3_findHangs_21 (fun H locs hP hD hS => ?_)
      replace hP : va_P D vwCl (wM h cA (nI n) hd fi un on may asd tx td kp ko ka tr pat pfr rhd rif rul prr prm rd bb nw ot (upd ev2 j2 0) (upd od2 j2 0)) H := hP
      replace hD : va_D A (wM h cA (nI n) hd fi un on may asd tx td kp ko ka tr pat pfr rhd rif rul prr prm rd bb nw ot (upd ev2 j2 0) (upd od2 j2 0)) := hD
      refine lv_iinc (v := nI (j2 + 1)) (lv' := [(2, .int (nI (j2 + 1))), (0, .ref (h 0)), (1, .int alone)]) hx hb dX3_findHangs_22 hl (k := 2) rfl (inc_nI j2) (by decide) rfl (fun ls hl => ?_)
      refine lv_goto (tgt := 2) hx hb dX3_findHangs_25 (by decide) ?_
      exact ih2 (j2 + 1) (by omega) (upd ev2 j2 0) (upd od2 j2 0) (itr_step he2 (by (unfold f_X3_findHangs_2; rw [onP2_mk ev2 od2]; first | done | with_reducible rfl)))   _ _ hP hD hS _ (lv_sub hl [1, 2, 0] rfl)
  exact lp2_1 8 0 (by omega) ev od (itr_zero _ _).symm   _ _ hP hD hS _ (lv_sub hl [1, 2, 0] rfl)

def f_X3_hangs_29 (evv_3 : Nat → Int32) (odv_4 : Nat → Int32) (what : Int32) (j29 : Nat) (set2 : Int32) : Int32 := (if (s_X3_has (odv_4 j29) (nI j29)) = 0 then (set2 ||| 0) else (set2 ||| (1 <<< ((nI j29) &&& 31))))
def f_X3_hangs_29b (evv_15 : Nat → Int32) (odv_16 : Nat → Int32) (what : Int32) (j29 : Nat) (set2 : Int32) : Int32 := (if (s_X3_has (evv_15 j29) (nI j29)) = 0 then (set2 ||| 0) else (set2 ||| (1 <<< ((nI j29) &&& 31))))
def s_X3_hangs (n : Nat) (hd : Nat → Int32) (fi : Nat → Int32) (un : Nat → Int32) (on : Int32) (ev : Nat → Int32) (od : Nat → Int32) (what : Int32) : Int32 := (if (s_X3_in ((what : Int32).toInt64) 0 1) = 0 then (-1) else (if what = 0 then (onP2 (s_X3_findHangs n hd fi un on ev od 1) (fun evv_15 odv_16 => (match itr (f_X3_hangs_29b evv_15 odv_16 what) 0 8 with | set2 => set2))) else (onP2 (s_X3_findHangs n hd fi un on ev od 0) (fun evv_3 odv_4 => (match itr (f_X3_hangs_29 evv_3 odv_4 what) 0 8 with | set2 => set2)))))
set_option maxHeartbeats 4000000 in
set_option maxRecDepth 100000 in
theorem c_X3_hangs (l : Launch) (D : va_G) (h : Nat → Nat) (cA : Nat → ClassId) (n : Nat) (hd : Nat → Int32) (fi : Nat → Int32) (un : Nat → Int32) (on : Int32) (may : Int32) (asd : Int32) (tx : Nat → Int32) (td : Int32) (kp : Nat → Int32) (ko : Nat → Int32) (ka : Nat → Int32) (tr : Int64) (pat : Int32) (pfr : Int32) (rhd : Nat → Int32) (rif : Nat → Int32) (rul : Nat → Int32) (prr : Int32) (prm : Int32) (rd : Nat → Int32) (bb : Nat → Int32) (nw : Nat → Int32) (ot : Nat → Int32) (ev : Nat → Int32) (od : Nat → Int32) (what : Int32) (hn : n ≤ 10) (hhd : ∀ k : Nat, k < n → ¬ hd k = 8 → vp_in (hd k) 8) (sz : Nat) : Met l yX3_hangs wsX3_hangs ({ frames := 2, cells := 0, slots := 0, locals := 47 }) (va_Pc [.ref (h 0), .int what] (cPre D (tM h cA) (wM h cA (nI n) hd fi un on may asd tx td kp ko ka tr pat pfr rhd rif rul prr prm rd bb nw ot ev od) sz)) (va_Qi (fun (r : Int32) (u : (Nat → Int32) × (Nat → Int32)) => r = s_X3_hangs n hd fi un on ev od what) (rwB D (fun u : (Nat → Int32) × (Nat → Int32) => (wM h cA (nI n) hd fi un on may asd tx td kp ko ka tr pat pfr rhd rif rul prr prm rd bb nw ot u.1 u.2)) (va_A (wM h cA (nI n) hd fi un on may asd tx td kp ko ka tr pat pfr rhd rif rul prr prm rd bb nw ot ev od) sz)) (va_A (wM h cA (nI n) hd fi un on may asd tx td kp ko ka tr pat pfr rhd rif rul prr prm rd bb nw ot ev od) sz)) 0 0 (va_A (wM h cA (nI n) hd fi un on may asd tx td kp ko ka tr pat pfr rhd rif rul prr prm rd bb nw ot ev od) sz) := by
  refine Met.ofW (cc := cX3_hangs) (maxL := 4) (ret := (some .int)) (by decide) rfl ?_
  intro p e s m args below meth c s₁ B hml hv
  obtain ⟨rfl, hsz, hP, hK, hD, hN⟩ := hv
  have hx := B.exec
  have hb := B.bytes
  have hr := B.returns
  have hts := atoms_spec (ws := wsX3_hangs) B.pre
  have hown : s.vm.findClass RX3 = some m.cls := findClass_of_methodNamed B.named
  have hlocks := B.notSynchronized
  have hinX3 : ∀ w ∈ wsX30, w ∈ wsX3_hangs := fun w h => List.mem_cons_of_mem _ (List.mem_append_right _ h)
  subst hsz
  replace hD := hD.self (sz := s.heap.size)
  generalize hAe : va_A (wM h cA (nI n) hd fi un on may asd tx td kp ko ka tr pat pfr rhd rif rul prr prm rd bb nw ot ev od) s.heap.size = A at hD ⊢
  have hA : ∀ q : Nat, s.heap.size ≤ q → A q := fun q h => by rw [← hAe]; exact Or.inr h
  have hS : va_S A s.heap s.heap [] := va_S.rf
  have hl := lv_entry ([.ref (h 0), .int what]) (n := 4) (Nat.le_of_ble_eq_true rfl)
  rw [lg_entry_eq]
  generalize (lg_sl ([.ref (h 0), .int what]) ++ List.replicate (4 - (lg_sl ([.ref (h 0), .int what])).length) Slot.unset).toArray = ls at hl ⊢
  replace hl : lv_has ls 4 [(0, .ref (h 0)), (1, .int what)] := hl
  have hKe := hK.sub (tys' := []) [] rfl
  refine lv_iload_n hx hb dX3_hangs_0 rfl (lv_at hl 1 rfl) ?_
  refine lv_i2l hx hb dX3_hangs_1 rfl ?_
  refine lv_lconst (v := 0) hx hb dX3_hangs_2 (by decide) ?_
  refine lv_lconst (v := 1) hx hb dX3_hangs_3 (by decide) ?_
  refine ro_i (D := D) (va_runS (As := [.long ((what : Int32).toInt64), .long 0, .long 1]) (rest := []) ⟨hx, hb, hml, hown, hts⟩ (c_X3_in l D ((what : Int32).toInt64) 0 1  _) (va_cwS 3 hts gX3_hangs_X3_in rfl rfl rfl (by decide +kernel) ⟨Nat.le_of_ble_eq_true rfl, Nat.le_of_ble_eq_true rfl⟩) ⟨cPre.blind, cPre.mk vP0 hKe vD0 hN⟩ rfl rfl hl.1 rfl (lv_room (Nat.le_of_ble_eq_true rfl)) dX3_hangs_4 ⟨Nat.zero_le _, Nat.zero_le _⟩) hS hA (fun H locs hkp0 hS => ?_)
  replace hP := hkp0 _ hP
  refine lv_if_ne (tgt := 12) hx hb dX3_hangs_7 (by decide) (fun c_7_1 => ?_) (fun c_7_1 => ?_)
  · refine lv_aload_n hx hb dX3_hangs_12 rfl (lv_at hl 0 rfl) ?_
    refine lv_iload_n hx hb dX3_hangs_13 rfl (lv_at hl 1 rfl) ?_
    refine lv_if_ne (tgt := 21) hx hb dX3_hangs_14 (by decide) (fun c_14_2 => ?_) (fun c_14_2 => ?_)
    · refine lv_iconst (v := 0) hx hb dX3_hangs_21 (by decide) ?_
      have hFc := va_free (wc := (wM h cA (nI n) hd fi un on may asd tx td kp ko ka tr pat pfr rhd rif rul prr prm rd bb nw ot ev od)) hD hS hA [0, 1, 2, 3, 4, 5, 6, 7, 8, 9, 10, 11, 12, 13, 14, 15, 16] rfl
      refine rw_v (D := D) (wc := (wM h cA (nI n) hd fi un on may asd tx td kp ko ka tr pat pfr rhd rif rul prr prm rd bb nw ot ev od)) (va_runV (As := [.int 0]) (rest := []) ⟨hx, hb, hml, hown, hts⟩ (c_X3_findHangs l D h cA n hd fi un on may asd tx td kp ko ka tr pat pfr rhd rif rul prr prm rd bb nw ot ev od 0 (by first | assumption | omega) hhd _) (cwV 1 hts gX3_hangs_X3_findHangs rfl rfl rfl (by decide +kernel) ⟨Nat.le_of_ble_eq_true rfl, Nat.le_of_ble_eq_true rfl⟩) ⟨cPre.blind, va_recv hK hP (ci := 3) (q0 := 0) rfl rfl, cPre.mk hP hK hD hN⟩ rfl rfl hl.1 rfl (lv_room (Nat.le_of_ble_eq_true rfl)) dX3_hangs_22 ⟨Nat.zero_le _, Nat.zero_le _⟩) hS hFc (fun u H1 locs hw_6 hP1 hD1 hk1 hS => ?_)
      obtain ⟨evv_3, odv_4⟩ := u
      try dsimp only at hw_6
      have hP : va_P D vwCl (wM h cA (nI n) hd fi un on may asd tx td kp ko ka tr pat pfr rhd rif rul prr prm rd bb nw ot evv_3 odv_4) H1 := hP1
      have hD : va_D A (wM h cA (nI n) hd fi un on may asd tx td kp ko ka tr pat pfr rhd rif rul prr prm rd bb nw ot evv_3 odv_4) := hD1.weaken (fun k q hk h => hFc _ h)
      clear hP1 hD1 hFc hk1
      generalize H1 = H at hP hS ⊢
      refine lv_iconst (v := 0) hx hb dX3_hangs_25 (by decide) ?_
      refine lv_istore_n (lv' := [(2, .int 0), (0, .ref (h 0)), (1, .int what)]) hx hb dX3_hangs_26 rfl hl (by decide) rfl (fun ls hl => ?_)
      refine lv_iconst (v := 0) hx hb dX3_hangs_27 (by decide) ?_
      refine lv_istore_n (lv' := [(3, .int 0), (2, .int 0), (0, .ref (h 0)), (1, .int what)]) hx hb dX3_hangs_28 rfl hl (by decide) rfl (fun ls hl => ?_)
      have lp29_7 : ∀ (z_7 j29 : Nat), j29 + z_7 = 8 → ∀ (set2 : Int32), set2 = itr (f_X3_hangs_29 evv_3 odv_4 what) 0 j29 → ∀  (H : Heap) (locs : List Loc), va_P D vwCl (wM h cA (nI n) hd fi un on may asd tx td kp ko ka tr pat pfr rhd rif rul prr prm rd bb nw ot evv_3 odv_4) H → va_D A (wM h cA (nI n) hd fi un on may asd tx td kp ko ka tr pat pfr rhd rif rul prr prm rd bb nw ot evv_3 odv_4) → va_S A s.heap H locs → ∀ ls : Array Slot, lv_has ls 4 [(0, .ref (h 0)), (1, .int what), (2, .int set2), (3, .int (nI j29))] → W p l e (headSpec wsX3_hangs ({ frames := 2, cells := 0, slots := 0, locals := 47 })).room s m ([.ref (h 0), .int what] : List Value).toArray below meth c H locs 0 0 (MQ below (va_Qi (fun (r : Int32) (u : (Nat → Int32) × (Nat → Int32)) => r = s_X3_hangs n hd fi un on ev od what) (rwB D (fun u : (Nat → Int32) × (Nat → Int32) => (wM h cA (nI n) hd fi un on may asd tx td kp ko ka tr pat pfr rhd rif rul prr prm rd bb nw ot u.1 u.2)) A) A) ([.ref (h 0), .int what] : List Value).toArray s 0 0 A) (F0 m 29 ls []) := by
        intro z_7
        induction z_7 with
        | zero =>
          intro j29 hj29 set2 he29   H locs hP hD hS ls hl
          obtain rfl : 8 = j29 := by omega
          refine lv_iload_n hx hb dX3_hangs_29 rfl (lv_at hl 3 rfl) ?_
          refine lv_bipush (v := 8) hx hb dX3_hangs_30 (by decide) ?_
          refine lv_icmp_ge (tgt := 77) hx hb dX3_hangs_32 (by decide) (fun _ => ?_) (fun hh_9 => absurd (nI_le (a := 8) (b := 8) (by omega) (by omega)) hh_9)
          refine lv_iload_n hx hb dX3_hangs_77 rfl (lv_at hl 2 rfl) ?_
          exact rw_iret hx hb hr hS hlocks (evv_3, odv_4) (show s_X3_hangs n hd fi un on ev od what = set2 from by (unfold s_X3_hangs; (try rw [if_neg c_7_1]); (try rw [if_neg c_14_2]); (try rw [← hw_6]); (try rw [onP2_mk evv_3 odv_4]); (try rw [← he29]); first | done | with_reducible rfl)).symm hP hD dX3_hangs_78
        | succ z_7 ih29 =>
          intro j29 hj29 set2 he29   H locs hP hD hS ls hl
          refine lv_iload_n hx hb dX3_hangs_29 rfl (lv_at hl 3 rfl) ?_
          refine lv_bipush (v := 8) hx hb dX3_hangs_30 (by decide) ?_
          refine lv_icmp_ge (tgt := 77) hx hb dX3_hangs_32 (by decide) (fun hh_11 => absurd hh_11 (nI_ge (a := j29) (b := 8) (by omega) (by omega))) (fun _ => ?_)
          refine lv_iload_n hx hb dX3_hangs_35 rfl (lv_at hl 2 rfl) ?_
          refine lv_iload_n hx hb dX3_hangs_36 rfl (lv_at hl 1 rfl) ?_
          refine lv_if_ne (tgt := 49) hx hb dX3_hangs_37 (by decide) (fun _ => ?_) (fun hh_13 => absurd hh_13 c_14_2)
          refine lv_aload_n hx hb dX3_hangs_49 rfl (lv_at hl 0 rfl) ?_
          refine va_get (D := D) (ci := 3) (v := .ref (h 16)) (C := RX3) (T := TX3) (N := 26) hx hb hts hinX3 hown hK hP 0 rfl rfl 25 (by decide) (hts (.fieldLink RX3 56 "HoldUnlessModel" "odd" "[I") (by decide +kernel)) (fun _ h9 => h9) rfl dX3_hangs_50 ?_
          refine lv_iload_n hx hb dX3_hangs_53 rfl (lv_at hl 3 rfl) ?_
          refine wa_ild hx hb hK hP 16 15 rfl rfl j29 rfl (by omega) (by decide) dX3_hangs_54 ?_
          refine lv_iload_n hx hb dX3_hangs_55 rfl (lv_at hl 3 rfl) ?_
          refine ro_i (D := D) (va_runS (As := [.int (odv_4 j29), .int (nI j29)]) (rest := [.int set2]) ⟨hx, hb, hml, hown, hts⟩ (c_X3_has l D (odv_4 j29) (nI j29)  _) (va_cwS 2 hts gX3_hangs_X3_has rfl rfl rfl (by decide +kernel) ⟨Nat.le_of_ble_eq_true rfl, Nat.le_of_ble_eq_true rfl⟩) ⟨cPre.blind, cPre.mk vP0 hKe vD0 hN⟩ rfl rfl hl.1 rfl (lv_room (Nat.le_of_ble_eq_true rfl)) dX3_hangs_56 ⟨Nat.zero_le _, Nat.zero_le _⟩) hS hA (fun H locs hkp0 hS => ?_)
          replace hP := hkp0 _ hP
          refine lv_if_eq (tgt := 68) hx hb dX3_hangs_59 (by decide) (fun c_59_14 => ?_) (fun c_59_14 => ?_)
          · refine lv_iconst (v := 0) hx hb dX3_hangs_68 (by decide) ?_
            refine lv_ior hx hb dX3_hangs_69 ?_
            refine lv_istore_n (lv' := [(2, .int (set2 ||| 0)), (0, .ref (h 0)), (1, .int what), (3, .int (nI j29))]) hx hb dX3_hangs_70 rfl hl (by decide) rfl (fun ls hl => ?_)
            refine lv_iinc (v := nI (j29 + 1)) (lv' := [(3, .int (nI (j29 + 1))), (2, .int (set2 ||| 0)), (0, .ref (h 0)), (1, .int what)]) hx hb dX3_hangs_71 hl (k := 3) rfl (inc_nI j29) (by decide) rfl (fun ls hl => ?_)
            refine lv_goto (tgt := 29) hx hb dX3_hangs_74 (by decide) ?_
            exact ih29 (j29 + 1) (by omega) (set2 ||| 0) (itr_step he29 (by (unfold f_X3_hangs_29; (try rw [if_pos c_59_14]); first | done | with_reducible rfl)))   _ _ hP hD hS _ (lv_sub hl [2, 3, 1, 0] rfl)
          · refine lv_iconst (v := 1) hx hb dX3_hangs_62 (by decide) ?_
            refine lv_iload_n hx hb dX3_hangs_63 rfl (lv_at hl 3 rfl) ?_
            refine lv_ishl hx hb dX3_hangs_64 ?_
            refine lv_goto (tgt := 69) hx hb dX3_hangs_65 (by decide) ?_
            refine lv_ior hx hb dX3_hangs_69 ?_
            refine lv_istore_n (lv' := [(2, .int (set2 ||| (1 <<< ((nI j29) &&& 31)))), (0, .ref (h 0)), (1, .int what), (3, .int (nI j29))]) hx hb dX3_hangs_70 rfl hl (by decide) rfl (fun ls hl => ?_)
            refine lv_iinc (v := nI (j29 + 1)) (lv' := [(3, .int (nI (j29 + 1))), (2, .int (set2 ||| (1 <<< ((nI j29) &&& 31)))), (0, .ref (h 0)), (1, .int what)]) hx hb dX3_hangs_71 hl (k := 3) rfl (inc_nI j29) (by decide) rfl (fun ls hl => ?_)
            refine lv_goto (tgt := 29) hx hb dX3_hangs_74 (by decide) ?_
            exact ih29 (j29 + 1) (by omega) (set2 ||| (1 <<< ((nI j29) &&& 31))) (itr_step he29 (by (unfold f_X3_hangs_29; (try rw [if_neg c_59_14]); first | done | with_reducible rfl)))   _ _ hP hD hS _ (lv_sub hl [2, 3, 1, 0] rfl)
      exact lp29_7 8 0 (by omega) 0 (itr_zero _ _).symm   _ _ hP hD hS _ (lv_sub hl [2, 3, 1, 0] rfl)
    · refine lv_iconst (v := 1) hx hb dX3_hangs_17 (by decide) ?_
      refine lv_goto (tgt := 22) hx hb dX3_hangs_18 (by decide) ?_
      have hFc := va_free (wc := (wM h cA (nI n) hd fi un on may asd tx td kp ko ka tr pat pfr rhd rif rul prr prm rd bb nw ot ev od)) hD hS hA [0, 1, 2, 3, 4, 5, 6, 7, 8, 9, 10, 11, 12, 13, 14, 15, 16] rfl
      refine rw_v (D := D) (wc := (wM h cA (nI n) hd fi un on may asd tx td kp ko ka tr pat pfr rhd rif rul prr prm rd bb nw ot ev od)) (va_runV (As := [.int 1]) (rest := []) ⟨hx, hb, hml, hown, hts⟩ (c_X3_findHangs l D h cA n hd fi un on may asd tx td kp ko ka tr pat pfr rhd rif rul prr prm rd bb nw ot ev od 1 (by first | assumption | omega) hhd _) (cwV 1 hts gX3_hangs_X3_findHangs rfl rfl rfl (by decide +kernel) ⟨Nat.le_of_ble_eq_true rfl, Nat.le_of_ble_eq_true rfl⟩) ⟨cPre.blind, va_recv hK hP (ci := 3) (q0 := 0) rfl rfl, cPre.mk hP hK hD hN⟩ rfl rfl hl.1 rfl (lv_room (Nat.le_of_ble_eq_true rfl)) dX3_hangs_22 ⟨Nat.zero_le _, Nat.zero_le _⟩) hS hFc (fun u H1 locs hw_18 hP1 hD1 hk1 hS => ?_)
      obtain ⟨evv_15, odv_16⟩ := u
      try dsimp only at hw_18
      have hP : va_P D vwCl (wM h cA (nI n) hd fi un on may asd tx td kp ko ka tr pat pfr rhd rif rul prr prm rd bb nw ot evv_15 odv_16) H1 := hP1
      have hD : va_D A (wM h cA (nI n) hd fi un on may asd tx td kp ko ka tr pat pfr rhd rif rul prr prm rd bb nw ot evv_15 odv_16) := hD1.weaken (fun k q hk h => hFc _ h)
      clear hP1 hD1 hFc hk1
      generalize H1 = H at hP hS ⊢
      refine lv_iconst (v := 0) hx hb dX3_hangs_25 (by decide) ?_
      refine lv_istore_n (lv' := [(2, .int 0), (0, .ref (h 0)), (1, .int what)]) hx hb dX3_hangs_26 rfl hl (by decide) rfl (fun ls hl => ?_)
      refine lv_iconst (v := 0) hx hb dX3_hangs_27 (by decide) ?_
      refine lv_istore_n (lv' := [(3, .int 0), (2, .int 0), (0, .ref (h 0)), (1, .int what)]) hx hb dX3_hangs_28 rfl hl (by decide) rfl (fun ls hl => ?_)
      have lp29_19 : ∀ (z_19 j29 : Nat), j29 + z_19 = 8 → ∀ (set2 : Int32), set2 = itr (f_X3_hangs_29b evv_15 odv_16 what) 0 j29 → ∀  (H : Heap) (locs : List Loc), va_P D vwCl (wM h cA (nI n) hd fi un on may asd tx td kp ko ka tr pat pfr rhd rif rul prr prm rd bb nw ot evv_15 odv_16) H → va_D A (wM h cA (nI n) hd fi un on may asd tx td kp ko ka tr pat pfr rhd rif rul prr prm rd bb nw ot evv_15 odv_16) → va_S A s.heap H locs → ∀ ls : Array Slot, lv_has ls 4 [(0, .ref (h 0)), (1, .int what), (2, .int set2), (3, .int (nI j29))] → W p l e (headSpec wsX3_hangs ({ frames := 2, cells := 0, slots := 0, locals := 47 })).room s m ([.ref (h 0), .int what] : List Value).toArray below meth c H locs 0 0 (MQ below (va_Qi (fun (r : Int32) (u : (Nat → Int32) × (Nat → Int32)) => r = s_X3_hangs n hd fi un on ev od what) (rwB D (fun u : (Nat → Int32) × (Nat → Int32) => (wM h cA (nI n) hd fi un on may asd tx td kp ko ka tr pat pfr rhd rif rul prr prm rd bb nw ot u.1 u.2)) A) A) ([.ref (h 0), .int what] : List Value).toArray s 0 0 A) (F0 m 29 ls []) := by
        intro z_19
        induction z_19 with
        | zero =>
          intro j29 hj29 set2 he29   H locs hP hD hS ls hl
          obtain rfl : 8 = j29 := by omega
          refine lv_iload_n hx hb dX3_hangs_29 rfl (lv_at hl 3 rfl) ?_
          refine lv_bipush (v := 8) hx hb dX3_hangs_30 (by decide) ?_
          refine lv_icmp_ge (tgt := 77) hx hb dX3_hangs_32 (by decide) (fun _ => ?_) (fun hh_21 => absurd (nI_le (a := 8) (b := 8) (by omega) (by omega)) hh_21)
          refine lv_iload_n hx hb dX3_hangs_77 rfl (lv_at hl 2 rfl) ?_
          exact rw_iret hx hb hr hS hlocks (evv_15, odv_16) (show s_X3_hangs n hd fi un on ev od what = set2 from by (unfold s_X3_hangs; (try rw [if_neg c_7_1]); (try rw [if_pos c_14_2]); (try rw [← hw_18]); (try rw [onP2_mk evv_15 odv_16]); (try rw [← he29]); first | done | with_reducible rfl)).symm hP hD dX3_hangs_78
        | succ z_19 ih29 =>
          intro j29 hj29 set2 he29   H locs hP hD hS ls hl
          refine lv_iload_n hx hb dX3_hangs_29 rfl (lv_at hl 3 rfl) ?_
          refine lv_bipush (v := 8) hx hb dX3_hangs_30 (by decide) ?_
          refine lv_icmp_ge (tgt := 77) hx hb dX3_hangs_32 (by decide) (fun hh_23 => absurd hh_23 (nI_ge (a := j29) (b := 8) (by omega) (by omega))) (fun _ => ?_)
          refine lv_iload_n hx hb dX3_hangs_35 rfl (lv_at hl 2 rfl) ?_
          refine lv_iload_n hx hb dX3_hangs_36 rfl (lv_at hl 1 rfl) ?_
          refine lv_if_ne (tgt := 49) hx hb dX3_hangs_37 (by decide) (fun hh_25 => absurd c_14_2 hh_25) (fun _ => ?_)
          refine lv_aload_n hx hb dX3_hangs_40 rfl (lv_at hl 0 rfl) ?_
          refine va_get (D := D) (ci := 3) (v := .ref (h 15)) (C := RX3) (T := TX3) (N := 26) hx hb hts hinX3 hown hK hP 0 rfl rfl 24 (by decide) (hts (.fieldLink RX3 53 "HoldUnlessModel" "even" "[I") (by decide +kernel)) (fun _ h9 => h9) rfl dX3_hangs_41 ?_
          refine lv_iload_n hx hb dX3_hangs_44 rfl (lv_at hl 3 rfl) ?_
          refine wa_ild hx hb hK hP 15 14 rfl rfl j29 rfl (by omega) (by decide) dX3_hangs_45 ?_
          refine lv_goto (tgt := 55) hx hb dX3_hangs_46 (by decide) ?_
          refine lv_iload_n hx hb dX3_hangs_55 rfl (lv_at hl 3 rfl) ?_
          refine ro_i (D := D) (va_runS (As := [.int (evv_15 j29), .int (nI j29)]) (rest := [.int set2]) ⟨hx, hb, hml, hown, hts⟩ (c_X3_has l D (evv_15 j29) (nI j29)  _) (va_cwS 2 hts gX3_hangs_X3_has rfl rfl rfl (by decide +kernel) ⟨Nat.le_of_ble_eq_true rfl, Nat.le_of_ble_eq_true rfl⟩) ⟨cPre.blind, cPre.mk vP0 hKe vD0 hN⟩ rfl rfl hl.1 rfl (lv_room (Nat.le_of_ble_eq_true rfl)) dX3_hangs_56 ⟨Nat.zero_le _, Nat.zero_le _⟩) hS hA (fun H locs hkp0 hS => ?_)
          replace hP := hkp0 _ hP
          refine lv_if_eq (tgt := 68) hx hb dX3_hangs_59 (by decide) (fun c_59_26 => ?_) (fun c_59_26 => ?_)
          · refine lv_iconst (v := 0) hx hb dX3_hangs_68 (by decide) ?_
            refine lv_ior hx hb dX3_hangs_69 ?_
            refine lv_istore_n (lv' := [(2, .int (set2 ||| 0)), (0, .ref (h 0)), (1, .int what), (3, .int (nI j29))]) hx hb dX3_hangs_70 rfl hl (by decide) rfl (fun ls hl => ?_)
            refine lv_iinc (v := nI (j29 + 1)) (lv' := [(3, .int (nI (j29 + 1))), (2, .int (set2 ||| 0)), (0, .ref (h 0)), (1, .int what)]) hx hb dX3_hangs_71 hl (k := 3) rfl (inc_nI j29) (by decide) rfl (fun ls hl => ?_)
            refine lv_goto (tgt := 29) hx hb dX3_hangs_74 (by decide) ?_
            exact ih29 (j29 + 1) (by omega) (set2 ||| 0) (itr_step he29 (by (unfold f_X3_hangs_29b; (try rw [if_pos c_59_26]); first | done | with_reducible rfl)))   _ _ hP hD hS _ (lv_sub hl [2, 3, 1, 0] rfl)
          · refine lv_iconst (v := 1) hx hb dX3_hangs_62 (by decide) ?_
            refine lv_iload_n hx hb dX3_hangs_63 rfl (lv_at hl 3 rfl) ?_
            refine lv_ishl hx hb dX3_hangs_64 ?_
            refine lv_goto (tgt := 69) hx hb dX3_hangs_65 (by decide) ?_
            refine lv_ior hx hb dX3_hangs_69 ?_
            refine lv_istore_n (lv' := [(2, .int (set2 ||| (1 <<< ((nI j29) &&& 31)))), (0, .ref (h 0)), (1, .int what), (3, .int (nI j29))]) hx hb dX3_hangs_70 rfl hl (by decide) rfl (fun ls hl => ?_)
            refine lv_iinc (v := nI (j29 + 1)) (lv' := [(3, .int (nI (j29 + 1))), (2, .int (set2 ||| (1 <<< ((nI j29) &&& 31)))), (0, .ref (h 0)), (1, .int what)]) hx hb dX3_hangs_71 hl (k := 3) rfl (inc_nI j29) (by decide) rfl (fun ls hl => ?_)
            refine lv_goto (tgt := 29) hx hb dX3_hangs_74 (by decide) ?_
            exact ih29 (j29 + 1) (by omega) (set2 ||| (1 <<< ((nI j29) &&& 31))) (itr_step he29 (by (unfold f_X3_hangs_29b; (try rw [if_neg c_59_26]); first | done | with_reducible rfl)))   _ _ hP hD hS _ (lv_sub hl [2, 3, 1, 0] rfl)
      exact lp29_19 8 0 (by omega) 0 (itr_zero _ _).symm   _ _ hP hD hS _ (lv_sub hl [2, 3, 1, 0] rfl)
  · refine lv_iconst (v := (-1)) hx hb dX3_hangs_10 (by decide) ?_
    exact rw_iret hx hb hr hS hlocks (ev, od) (show s_X3_hangs n hd fi un on ev od what = (-1) from by (unfold s_X3_hangs; (try rw [if_pos c_7_1]); first | done | with_reducible rfl)).symm hP hD dX3_hangs_11

