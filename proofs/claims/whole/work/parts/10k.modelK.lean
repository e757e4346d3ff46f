
def f_X3_type_34 (v : Int64) (t : Nat) (j34 : Nat) (st : Int32 × (Nat → Int32)) : Int32 × (Nat → Int32) := match st with | (k4, tx4) => ((k4 + (-1)), (upd tx4 (t + j34) ((((v >>> ((((8 * k4) : Int32).toInt64) &&& 63)) &&& 255) : Int64).toInt32)))
def s_X3_type (t : Nat) (tx : Nat → Int32) (v : Int64) (n : Int32) : Int32 × (Nat → Int32) × Nat := (if (s_X3_in ((n : Int32).toInt64) 1 8) = 0 then ((-1), tx, t) else (if ((nI t) + n) ≤ 300 then (match itr (f_X3_type_34 v t) ((n - 1), tx) n.toNatClampNeg with | (k4, tx4) => ((nI (t + n.toNatClampNeg)), tx4, (t + n.toNatClampNeg))) else ((-3), tx, t)))
set_option maxHeartbeats 4000000 in
set_option maxRecDepth 100000 in
theorem c_X3_type (l : Launch) (D : va_G) (h : Nat → Nat) (cA : Nat → ClassId) (t : Nat) (rl : Int32) (hd : Nat → Int32) (fi : Nat → Int32) (un : Nat → Int32) (on : Int32) (may : Int32) (asd : Int32) (tx : Nat → Int32) (kp : Nat → Int32) (ko : Nat → Int32) (ka : Nat → Int32) (tr : Int64) (pat : Int32) (pfr : Int32) (rhd : Nat → Int32) (rif : Nat → Int32) (rul : Nat → Int32) (prr : Int32) (prm : Int32) (rd : Nat → Int32) (bb : Nat → Int32) (nw : Nat → Int32) (ot : Nat → Int32) (ev : Nat → Int32) (od : Nat → Int32) (v : Int64) (n : Int32) (ht : t ≤ 300) (sz : Nat) : Met l yX3_type wsX3_type ({ frames := 1, cells := 0, slots := 0, locals := 25 }) (va_Pc [.ref (h 0), .long v, .int n] (cPre D (tM h cA) (wM h cA rl hd fi un on may asd tx (nI t) kp ko ka tr pat pfr rhd rif rul prr prm rd bb nw ot ev od) sz)) (va_Qi (fun (r : Int32) (u : (Nat → Int32) × Nat) => (r, u.1, u.2) = s_X3_type t tx v n ∧ (u.2 ≤ 300)) (rwB D (fun u : (Nat → Int32) × Nat => (wM h cA rl hd fi un on may asd u.1 (nI u.2) kp ko ka tr pat pfr rhd rif rul prr prm rd bb nw ot ev od)) (va_A (wM h cA rl hd fi un on may asd tx (nI t) kp ko ka tr pat pfr rhd rif rul prr prm rd bb nw ot ev od) sz)) (va_A (wM h cA rl hd fi un on may asd tx (nI t) kp ko ka tr pat pfr rhd rif rul prr prm rd bb nw ot ev od) sz)) 0 0 (va_A (wM h cA rl hd fi un on may asd tx (nI t) kp ko ka tr pat pfr rhd rif rul prr prm rd bb nw ot ev od) sz) := by
  refine Met.ofW (cc := cX3_type) (maxL := 5) (ret := (some .int)) (by decide) rfl ?_
  intro p e s m args below meth c s₁ B hml hv
  obtain ⟨rfl, hsz, hP, hK, hD, hN⟩ := hv
  have hx := B.exec
  have hb := B.bytes
  have hr := B.returns
  have hts := atoms_spec (ws := wsX3_type) B.pre
  have hown : s.vm.findClass RX3 = some m.cls := findClass_of_methodNamed B.named
  have hlocks := B.notSynchronized
  have hinX3 : ∀ w ∈ wsX30, w ∈ wsX3_type := fun w h => List.mem_cons_of_mem _ (List.mem_append_right _ h)
  subst hsz
  replace hD := hD.self (sz := s.heap.size)
  generalize hAe : va_A (wM h cA rl hd fi un on may asd tx (nI t) kp ko ka tr pat pfr rhd rif rul prr prm rd bb nw ot ev od) s.heap.size = A at hD ⊢
  have hA : ∀ q : Nat, s.heap.size ≤ q → A q := fun q h => by rw [← hAe]; exact Or.inr h
  have hS : va_S A s.heap s.heap [] := va_S.rf
  have hl := lv_entry ([.ref (h 0), .long v, .int n]) (n := 5) (Nat.le_of_ble_eq_true rfl)
  rw [lg_entry_eq]
  generalize (lg_sl ([.ref (h 0), .long v, .int n]) ++ List.replicate (5 - (lg_sl ([.ref (h 0), .long v, .int n])).length) Slot.unset).toArray = ls at hl ⊢
  replace hl : lv_has ls 5 [(0, .ref (h 0)), (1, .long v), (3, .int n)] := hl
  have hKe := hK.sub (tys' := []) [] rfl
  refine lv_iload_n hx hb dX3_type_0 rfl (lv_at hl 2 rfl) ?_
  refine lv_i2l hx hb dX3_type_1 rfl ?_
  refine lv_lconst (v := 1) hx hb dX3_type_2 (by decide) ?_
  refine lv_ldc2 (v := 8) hx hb hown (hts (.constantLong RX3 67 (8)) (by decide +kernel)) dX3_type_3 ?_
  refine ro_i (D := D) (va_runS (As := [.long ((n : Int32).toInt64), .long 1, .long 8]) (rest := []) ⟨hx, hb, hml, hown, hts⟩ (c_X3_in l D ((n : Int32).toInt64) 1 8  _) (va_cwS 3 hts gX3_type_X3_in rfl rfl rfl (by decide +kernel) ⟨Nat.le_of_ble_eq_true rfl, Nat.le_of_ble_eq_true rfl⟩) ⟨cPre.blind, cPre.mk vP0 hKe vD0 hN⟩ rfl rfl hl.1 rfl (lv_room (Nat.le_of_ble_eq_true rfl)) dX3_type_6 ⟨Nat.zero_le _, Nat.zero_le _⟩) hS hA (fun H locs hkp0 hS => ?_)
  replace hP := hkp0 _ hP
  refine lv_if_ne (tgt := 14) hx hb dX3_type_9 (by decide) (fun c_9_1 => ?_) (fun c_9_1 => ?_)
  · have hnn : ty_ok n := ty_ofM c_9_1
    refine lv_aload_n hx hb dX3_type_14 rfl (lv_at hl 0 rfl) ?_
    refine va_get (D := D) (ci := 3) (v := .int (nI t)) (C := RX3) (T := TX3) (N := 26) hx hb hts hinX3 hown hK hP 0 rfl rfl 8 (by decide) (hts (.fieldLink RX3 69 "HoldUnlessModel" "texted" "I") (by decide +kernel)) (fun _ h9 => h9) rfl dX3_type_15 ?_
    refine lv_iload_n hx hb dX3_type_18 rfl (lv_at hl 2 rfl) ?_
    refine lv_iadd hx hb dX3_type_19 ?_
    refine lv_sipush (v := 300) hx hb dX3_type_20 (by decide) ?_
    refine lv_icmp_le (tgt := 29) hx hb dX3_type_23 (by decide) (fun c_23_2 => ?_) (fun c_23_2 => ?_)
    · have ht3 : t + n.toNatClampNeg ≤ 300 := ty_room hnn ht c_23_2
      refine lv_iload_n hx hb dX3_type_29 rfl (lv_at hl 2 rfl) ?_
      refine lv_iconst (v := 1) hx hb dX3_type_30 (by decide) ?_
      refine lv_isub hx hb dX3_type_31 ?_
      refine lv_istore (lv' := [(4, .int (n - 1)), (0, .ref (h 0)), (1, .long v), (3, .int n)]) hx hb dX3_type_32 hl (by decide) rfl (fun ls hl => ?_)
      have lp34_3 : ∀ (z_3 j34 : Nat), j34 + z_3 = n.toNatClampNeg → ∀ (k4 : Int32) (tx4 : Nat → Int32), (k4, tx4) = itr (f_X3_type_34 v t) ((n - 1), tx) j34 → (k4 = n - 1 - nI j34) → ∀  (H : Heap) (locs : List Loc), va_P D vwCl (wM h cA rl hd fi un on may asd tx4 (nI (t + j34)) kp ko ka tr pat pfr rhd rif rul prr prm rd bb nw ot ev od) H → va_D A (wM h cA rl hd fi un on may asd tx4 (nI (t + j34)) kp ko ka tr pat pfr rhd rif rul prr prm rd bb nw ot ev od) → va_S A s.heap H locs → ∀ ls : Array Slot, lv_has ls 5 [(0, .ref (h 0)), (1, .long v), (3, .int n), (4, .int k4)] → W p l e (headSpec wsX3_type ({ frames := 1, cells := 0, slots := 0, locals := 25 })).room s m ([.ref (h 0), .long v, .int n] : List Value).toArray below meth c H locs 0 0 (MQ below (va_Qi (fun (r : Int32) (u : (Nat → Int32) × Nat) => (r, u.1, u.2) = s_X3_type t tx v n ∧ (u.2 ≤ 300)) (rwB D (fun u : (Nat → Int32) × Nat => (wM h cA rl hd fi un on may asd u.1 (nI u.2) kp ko ka tr pat pfr rhd rif rul prr prm rd bb nw ot ev od)) A) A) ([.ref (h 0), .long v, .int n] : List Value).toArray s 0 0 A) (F0 m 34 ls []) := by
        intro z_3
        induction z_3 with
        | zero =>
          intro j34 hj34 k4 tx4 he34 h4  H locs hP hD hS ls hl
          obtain rfl : n.toNatClampNeg = j34 := by omega
          refine lv_iload hx hb dX3_type_34 (lv_at hl 3 rfl) ?_
          refine lv_if_lt (tgt := 76) hx hb dX3_type_36 (by decide) (fun _ => ?_) (fun hh_5 => absurd (ty_neg hnn h4) hh_5)
          refine lv_aload_n hx hb dX3_type_76 rfl (lv_at hl 0 rfl) ?_
          refine va_get (D := D) (ci := 3) (v := .int (nI (t + n.toNatClampNeg))) (C := RX3) (T := TX3) (N := 26) hx hb hts hinX3 hown hK hP 0 rfl rfl 8 (by decide) (hts (.fieldLink RX3 69 "HoldUnlessModel" "texted" "I") (by decide +kernel)) (fun _ h9 => h9) rfl dX3_type_77 ?_
          exact rw_iret hx hb hr hS hlocks (tx4, (t + n.toNatClampNeg)) ⟨(show s_X3_type t tx v n = ((nI (t + n.toNatClampNeg)), tx4, (t + n.toNatClampNeg)) from by (unfold s_X3_type; (try dsimp only); (try rw [if_neg c_9_1]); (try rw [if_pos c_23_2]); (try rw [← he34]); (try dsimp only); first | done | with_reducible rfl)).symm, (by first | assumption | omega | rfl | exact Or.inl rfl | exact Or.inr (by omega) | (dsimp only; omega) | (dsimp only; intro h; omega) | (intro h; rcases h with h | h <;> contradiction))⟩ hP hD dX3_type_80
        | succ z_3 ih34 =>
          intro j34 hj34 k4 tx4 he34 h4  H locs hP hD hS ls hl
          refine lv_iload hx hb dX3_type_34 (lv_at hl 3 rfl) ?_
          refine lv_if_lt (tgt := 76) hx hb dX3_type_36 (by decide) (fun hh_7 => absurd hh_7 (ty_pos hnn h4 (by omega))) (fun _ => ?_)
          refine lv_aload_n hx hb dX3_type_39 rfl (lv_at hl 0 rfl) ?_
          refine va_get (D := D) (ci := 3) (v := .ref (h 4)) (C := RX3) (T := TX3) (N := 26) hx hb hts hinX3 hown hK hP 0 rfl rfl 7 (by decide) (hts (.fieldLink RX3 19 "HoldUnlessModel" "text" "[I") (by decide +kernel)) (fun _ h9 => h9) rfl dX3_type_40 ?_
          refine lv_aload_n hx hb dX3_type_43 rfl (lv_at hl 0 rfl) ?_
          refine va_get (D := D) (ci := 3) (v := .int (nI (t + j34))) (C := RX3) (T := TX3) (N := 26) hx hb hts hinX3 hown hK hP 0 rfl rfl 8 (by decide) (hts (.fieldLink RX3 69 "HoldUnlessModel" "texted" "I") (by decide +kernel)) (fun _ h9 => h9) rfl dX3_type_44 ?_
          refine lv_lload_n hx hb dX3_type_47 rfl (lv_at hl 1 rfl) ?_
          refine lv_bipush (v := 8) hx hb dX3_type_48 (by decide) ?_
          refine lv_iload hx hb dX3_type_50 (lv_at hl 3 rfl) ?_
          refine lv_imul hx hb dX3_type_52 ?_
          refine lv_lshr hx hb dX3_type_53 rfl ?_
          refine lv_ldc2 (v := 255) hx hb hown (hts (.constantLong RX3 72 (255)) (by decide +kernel)) dX3_type_54 ?_
          refine lv_land hx hb dX3_type_57 ?_
          refine lv_l2i hx hb dX3_type_58 rfl ?_
          refine wa_ist hx hb hK hP hD hS 4 3 rfl rfl (t + j34) rfl (by omega) (by decide) dX3_type_59 (fun H locs hP hD hS => ?_)
          replace hP : va_P D vwCl (wM h cA rl hd fi un on may asd (upd tx4 (t + j34) ((((v >>> ((((8 * k4) : Int32).toInt64) &&& 63)) &&& 255) : Int64).toInt32)) (nI (t + j34)) kp ko ka tr pat pfr rhd rif rul prr prm rd bb nw ot ev od) H := hP
          replace hD : va_D A (wM h cA rl hd fi un on may asd (upd tx4 (t + j34) ((((v >>> ((((8 * k4) : Int32).toInt64) &&& 63)) &&& 255) : Int64).toInt32)) (nI (t + j34)) kp ko ka tr pat pfr rhd rif rul prr prm rd bb nw ot ev od) := hD
          refine lv_aload_n hx hb dX3_type_60 rfl (lv_at hl 0 rfl) ?_
          refine lv_dup hx hb dX3_type_61 rfl ?_
          refine va_get (D := D) (ci := 3) (v := .int (nI (t + j34))) (C := RX3) (T := TX3) (N := 26) hx hb hts hinX3 hown hK hP 0 rfl rfl 8 (by decide) (hts (.fieldLink RX3 69 "HoldUnlessModel" "texted" "I") (by decide +kernel)) (fun _ h9 => h9) rfl dX3_type_62 ?_
          refine lv_iconst (v := 1) hx hb dX3_type_65 (by decide) ?_
          refine lv_iadd hx hb dX3_type_66 ?_
          refine lv_cv (nI_1 (t + j34)) ?_
          refine va_put (D := D) (ci := 3) (v := .int (nI ((t + j34) + 1))) (ty := .int) (C := RX3) (T := TX3) (N := 26) hx hb hts hinX3 tyX3 tyX3_ok nmX3 hown hK hP hD hS 0 rfl rfl 8 (by decide) (hts (.fieldLink RX3 69 "HoldUnlessModel" "texted" "I") (by decide +kernel)) (fun _ h9 => h9) rfl (by decide +kernel) rfl rfl (Nat.le_of_ble_eq_true rfl) dX3_type_67 (fun H locs hP hD hS => ?_)
          replace hP : va_P D vwCl (wM h cA rl hd fi un on may asd (upd tx4 (t + j34) ((((v >>> ((((8 * k4) : Int32).toInt64) &&& 63)) &&& 255) : Int64).toInt32)) (nI ((t + j34) + 1)) kp ko ka tr pat pfr rhd rif rul prr prm rd bb nw ot ev od) H := hP
          replace hD : va_D A (wM h cA rl hd fi un on may asd (upd tx4 (t + j34) ((((v >>> ((((8 * k4) : Int32).toInt64) &&& 63)) &&& 255) : Int64).toInt32)) (nI ((t + j34) + 1)) kp ko ka tr pat pfr rhd rif rul prr prm rd bb nw ot ev od) := hD
          refine lv_iinc (v := (k4 + (-1))) (lv' := [(4, .int (k4 + (-1))), (0, .ref (h 0)), (1, .long v), (3, .int n)]) hx hb dX3_type_70 hl (k := 3) rfl rfl (by decide) rfl (fun ls hl => ?_)
          refine lv_goto (tgt := 34) hx hb dX3_type_73 (by decide) ?_
          exact ih34 (j34 + 1) (by omega) (k4 + (-1)) (upd tx4 (t + j34) ((((v >>> ((((8 * k4) : Int32).toInt64) &&& 63)) &&& 255) : Int64).toInt32)) (itr_step he34 (by (unfold f_X3_type_34; (try dsimp only); first | done | with_reducible rfl))) (ty_step h4)  _ _ hP hD hS _ (lv_sub hl [1, 2, 3, 0] rfl)
      exact lp34_3 n.toNatClampNeg 0 (by omega) (n - 1) tx (itr_zero _ _).symm (by rw [nI_0, Int32.sub_zero])  _ _ hP hD hS _ (lv_sub hl [1, 2, 3, 0] rfl)
    · refine lv_bipush (v := (-3)) hx hb dX3_type_26 (by decide) ?_
      exact rw_iret hx hb hr hS hlocks (tx, t) ⟨(show s_X3_type t tx v n = ((-3), tx, t) from by (unfold s_X3_type; (try dsimp only); (try rw [if_neg c_9_1]); (try rw [if_neg c_23_2]); first | done | with_reducible rfl)).symm, (by first | assumption | omega | rfl | exact Or.inl rfl | exact Or.inr (by omega) | (dsimp only; omega) | (dsimp only; intro h; omega) | (intro h; rcases h with h | h <;> contradiction))⟩ hP hD dX3_type_28
  · refine lv_iconst (v := (-1)) hx hb dX3_type_12 (by decide) ?_
    exact rw_iret hx hb hr hS hlocks (tx, t) ⟨(show s_X3_type t tx v n = ((-1), tx, t) from by (unfold s_X3_type; (try dsimp only); (try rw [if_pos c_9_1]); first | done | with_reducible rfl)).symm, (by first | assumption | omega | rfl | exact Or.inl rfl | exact Or.inr (by omega) | (dsimp only; omega) | (dsimp only; intro h; omega) | (intro h; rcases h with h | h <;> contradiction))⟩ hP hD dX3_type_13

def f_X3_next_111 (tx : Nat → Int32) (q : Nat) (j0 : Nat) (j111 : Nat) (st : Int64) : (Int32 × Nat × Int32 ⊕ (Unit)) ⊕ (Int64) := match st with | word => (if (s_X3_isLetter (tx ((q + j0) + j111))) = 0 then (if 0 < (lg_cmp word 8) then (if (lg_cmp word 294) = 0 then (.inl (.inl (8, ((q + j0) + j111), (nI (q + j0))))) else (if (lg_cmp word 719722099) = 0 then (.inl (.inl (9, ((q + j0) + j111), (nI (q + j0))))) else (if (lg_cmp word 14866610) = 0 then (.inl (.inl (10, ((q + j0) + j111), (nI (q + j0))))) else (if (lg_cmp word 13369) = 0 then (.inl (.inl (11, ((q + j0) + j111), (nI (q + j0))))) else (.inl (.inl (13, ((q + j0) + j111), (nI (q + j0))))))))) else (.inl (.inl ((((word : Int64).toInt32) - 1), ((q + j0) + j111), (nI (q + j0)))))) else (if 7 ≤ ((nI ((q + j0) + j111)) - (nI (q + j0))) then (.inr word) else (.inr (((32 * word) + (((tx ((q + j0) + j111)) : Int32).toInt64)) - 96))))
def f_X3_next_0 (tx : Nat → Int32) (t : Nat) (q : Nat) (j0 : Nat) (st : Unit) : (Int32 × Nat × Int32) ⊕ (Unit) := (if (tx (q + j0)) = 32 then (.inr ()) else (if (s_X3_isLetter (tx (q + j0))) = 0 then (if (tx (q + j0)) = 59 then (.inl (12, ((q + j0) + 1), (nI (q + j0)))) else (.inl (13, ((q + j0) + 1), (nI (q + j0))))) else (onE (itE (f_X3_next_111 tx q j0) 0 (t - (q + j0))) (fun st => match st with | word => (if 0 < (lg_cmp word 8) then (if (lg_cmp word 294) = 0 then (.inl (8, ((q + j0) + (t - (q + j0))), (nI (q + j0)))) else (if (lg_cmp word 719722099) = 0 then (.inl (9, ((q + j0) + (t - (q + j0))), (nI (q + j0)))) else (if (lg_cmp word 14866610) = 0 then (.inl (10, ((q + j0) + (t - (q + j0))), (nI (q + j0)))) else (if (lg_cmp word 13369) = 0 then (.inl (11, ((q + j0) + (t - (q + j0))), (nI (q + j0)))) else (.inl (13, ((q + j0) + (t - (q + j0))), (nI (q + j0)))))))) else (.inl ((((word : Int64).toInt32) - 1), ((q + j0) + (t - (q + j0))), (nI (q + j0)))))))))
def s_X3_next (tx : Nat → Int32) (t : Nat) (q : Nat) : Int32 × Nat × Int32 := (onE (itE (f_X3_next_0 tx t q) () (t - q)) (fun st => match st with | () => (14, (q + (t - q)), (nI (q + (t - q))))))
set_option maxHeartbeats 4000000 in
set_option maxRecDepth 100000 in
theorem c_X3_next (l : Launch) (D : va_G) (h : Nat → Nat) (cA : Nat → ClassId) (t : Nat) (q : Nat) (rl : Int32) (hd : Nat → Int32) (fi : Nat → Int32) (un : Nat → Int32) (on : Int32) (may : Int32) (asd : Int32) (tx : Nat → Int32) (kp : Nat → Int32) (ko : Nat → Int32) (ka : Nat → Int32) (tr : Int64) (pfr : Int32) (rhd : Nat → Int32) (rif : Nat → Int32) (rul : Nat → Int32) (prr : Int32) (prm : Int32) (rd : Nat → Int32) (bb : Nat → Int32) (nw : Nat → Int32) (ot : Nat → Int32) (ev : Nat → Int32) (od : Nat → Int32) (hq : q ≤ t) (ht : t ≤ 300) (sz : Nat) : Met l yX3_next wsX3_next ({ frames := 1, cells := 0, slots := 0, locals := 20 }) (va_Pc [.ref (h 0)] (cPre D (tM h cA) (wM h cA rl hd fi un on may asd tx (nI t) kp ko ka tr (nI q) pfr rhd rif rul prr prm rd bb nw ot ev od) sz)) (va_Qi (fun (r : Int32) (u : Nat × Int32) => (r, u.1, u.2) = s_X3_next tx t q ∧ (u.1 ≤ t) ∧ (r = 14 ∨ q + 1 ≤ u.1)) (rwB D (fun u : Nat × Int32 => (wM h cA rl hd fi un on may asd tx (nI t) kp ko ka tr (nI u.1) u.2 rhd rif rul prr prm rd bb nw ot ev od)) (va_A (wM h cA rl hd fi un on may asd tx (nI t) kp ko ka tr (nI q) pfr rhd rif rul prr prm rd bb nw ot ev od) sz)) (va_A (wM h cA rl hd fi un on may asd tx (nI t) kp ko ka tr (nI q) pfr rhd rif rul prr prm rd bb nw ot ev od) sz)) 0 0 (va_A (wM h cA rl hd fi un on may asd tx (nI t) kp ko ka tr (nI q) pfr rhd rif rul prr prm rd bb nw ot ev od) sz) := by
  refine Met.ofW (cc := cX3_next) (maxL := 3) (ret := (some .int)) (by decide) rfl ?_
  intro p e s m args below meth c s₁ B hml hv
  obtain ⟨rfl, hsz, hP, hK, hD, hN⟩ := hv
  have hx := B.exec
  have hb := B.bytes
  have hr := B.returns
  have hts := atoms_spec (ws := wsX3_next) B.pre
  have hown : s.vm.findClass RX3 = some m.cls := findClass_of_methodNamed B.named
  have hlocks := B.notSynchronized
  have hinX3 : ∀ w ∈ wsX30, w ∈ wsX3_next := fun w h => List.mem_cons_of_mem _ (List.mem_append_right _ h)
  subst hsz
  replace hD := hD.self (sz := s.heap.size)
  generalize hAe : va_A (wM h cA rl hd fi un on may asd tx (nI t) kp ko ka tr (nI q) pfr rhd rif rul prr prm rd bb nw ot ev od) s.heap.size = A at hD ⊢
  have hA : ∀ q : Nat, s.heap.size ≤ q → A q := fun q h => by rw [← hAe]; exact Or.inr h
  have hS : va_S A s.heap s.heap [] := va_S.rf
  have hl := lv_entry ([.ref (h 0)]) (n := 3) (Nat.le_of_ble_eq_true rfl)
  rw [lg_entry_eq]
  generalize (lg_sl ([.ref (h 0)]) ++ List.replicate (3 - (lg_sl ([.ref (h 0)])).length) Slot.unset).toArray = ls at hl ⊢
  replace hl : lv_has ls 3 [(0, .ref (h 0))] := hl
  have hKe := hK.sub (tys' := []) [] rfl
  have lp0_1 : ∀ (z_1 j0 : Nat), j0 + z_1 = t - q → ∀ (_ : Unit), itE (f_X3_next_0 tx t q) () j0 = .inr () → ∀  (H : Heap) (locs : List Loc), va_P D vwCl (wM h cA rl hd fi un on may asd tx (nI t) kp ko ka tr (nI (q + j0)) pfr rhd rif rul prr prm rd bb nw ot ev od) H → va_D A (wM h cA rl hd fi un on may asd tx (nI t) kp ko ka tr (nI (q + j0)) pfr rhd rif rul prr prm rd bb nw ot ev od) → va_S A s.heap H locs → ∀ ls : Array Slot, lv_has ls 3 [(0, .ref (h 0))] → W p l e (headSpec wsX3_next ({ frames := 1, cells := 0, slots := 0, locals := 20 })).room s m ([.ref (h 0)] : List Value).toArray below meth c H locs 0 0 (MQ below (va_Qi (fun (r : Int32) (u : Nat × Int32) => (r, u.1, u.2) = s_X3_next tx t q ∧ (u.1 ≤ t) ∧ (r = 14 ∨ q + 1 ≤ u.1)) (rwB D (fun u : Nat × Int32 => (wM h cA rl hd fi un on may asd tx (nI t) kp ko ka tr (nI u.1) u.2 rhd rif rul prr prm rd bb nw ot ev od)) A) A) ([.ref (h 0)] : List Value).toArray s 0 0 A) (F0 m 0 ls []) := by
    intro z_1
    induction z_1 with
    | zero =>
      intro j0 hj0 _ he0   H locs hP hD hS ls hl
      obtain rfl : t - q = j0 := by omega
      refine lv_aload_n hx hb dX3_next_0 rfl (lv_at hl 0 rfl) ?_
      refine va_get (D := D) (ci := 3) (v := .int (nI (q + (t - q)))) (C := RX3) (T := TX3) (N := 26) hx hb hts hinX3 hown hK hP 0 rfl rfl 13 (by decide) (hts (.fieldLink RX3 74 "HoldUnlessModel" "at" "I") (by decide +kernel)) (fun _ h9 => h9) rfl dX3_next_1 ?_
      refine lv_aload_n hx hb dX3_next_4 rfl (lv_at hl 0 rfl) ?_
      refine va_get (D := D) (ci := 3) (v := .int (nI t)) (C := RX3) (T := TX3) (N := 26) hx hb hts hinX3 hown hK hP 0 rfl rfl 8 (by decide) (hts (.fieldLink RX3 69 "HoldUnlessModel" "texted" "I") (by decide +kernel)) (fun _ h9 => h9) rfl dX3_next_5 ?_
      refine lv_icmp_ge (tgt := 38) hx hb dX3_next_8 (by decide) (fun _ => ?_) (fun hh_3 => absurd (nI_le (a := t) (b := q + (t - q)) (by omega) (by omega)) hh_3)
      refine lv_aload_n hx hb dX3_next_38 rfl (lv_at hl 0 rfl) ?_
      refine lv_aload_n hx hb dX3_next_39 rfl (lv_at hl 0 rfl) ?_
      refine va_get (D := D) (ci := 3) (v := .int (nI (q + (t - q)))) (C := RX3) (T := TX3) (N := 26) hx hb hts hinX3 hown hK hP 0 rfl rfl 13 (by decide) (hts (.fieldLink RX3 74 "HoldUnlessModel" "at" "I") (by decide +kernel)) (fun _ h9 => h9) rfl dX3_next_40 ?_
      refine va_put (D := D) (ci := 3) (v := .int (nI (q + (t - q)))) (ty := .int) (C := RX3) (T := TX3) (N := 26) hx hb hts hinX3 tyX3 tyX3_ok nmX3 hown hK hP hD hS 0 rfl rfl 14 (by decide) (hts (.fieldLink RX3 77 "HoldUnlessModel" "from" "I") (by decide +kernel)) (fun _ h9 => h9) rfl (by decide +kernel) rfl rfl (Nat.le_of_ble_eq_true rfl) dX3_next_43 (fun H locs hP hD hS => ?_)
      replace hP : va_P D vwCl (wM h cA rl hd fi un on may asd tx (nI t) kp ko ka tr (nI (q + (t - q))) (nI (q + (t - q))) rhd rif rul prr prm rd bb nw ot ev od) H := hP
      replace hD : va_D A (wM h cA rl hd fi un on may asd tx (nI t) kp ko ka tr (nI (q + (t - q))) (nI (q + (t - q))) rhd rif rul prr prm rd bb nw ot ev od) := hD
      refine lv_aload_n hx hb dX3_next_46 rfl (lv_at hl 0 rfl) ?_
      refine va_get (D := D) (ci := 3) (v := .int (nI (q + (t - q)))) (C := RX3) (T := TX3) (N := 26) hx hb hts hinX3 hown hK hP 0 rfl rfl 13 (by decide) (hts (.fieldLink RX3 74 "HoldUnlessModel" "at" "I") (by decide +kernel)) (fun _ h9 => h9) rfl dX3_next_47 ?_
      refine lv_aload_n hx hb dX3_next_50 rfl (lv_at hl 0 rfl) ?_
      refine va_get (D := D) (ci := 3) (v := .int (nI t)) (C := RX3) (T := TX3) (N := 26) hx hb hts hinX3 hown hK hP 0 rfl rfl 8 (by decide) (hts (.fieldLink RX3 69 "HoldUnlessModel" "texted" "I") (by decide +kernel)) (fun _ h9 => h9) rfl dX3_next_51 ?_
      refine lv_icmp_ne (tgt := 60) hx hb dX3_next_54 (by decide) (fun hh_5 => absurd (show nI (q + (t - q)) = nI t from by rw [show q + (t - q) = t by omega]) hh_5) (fun _ => ?_)
      refine lv_bipush (v := 14) hx hb dX3_next_57 (by decide) ?_
      exact rw_iret hx hb hr hS hlocks ((q + (t - q)), (nI (q + (t - q)))) ⟨(show s_X3_next tx t q = (14, (q + (t - q)), (nI (q + (t - q)))) from by (unfold s_X3_next; (try dsimp only); (try rw [he0]); (try dsimp only [onE]); first | done | with_reducible rfl)).symm, (by first | assumption | omega | rfl | exact Or.inl rfl | exact Or.inr (by omega) | (dsimp only; omega) | (dsimp only; intro h; omega) | (intro h; rcases h with h | h <;> contradiction)), (by first | assumption | omega | rfl | exact Or.inl rfl | exact Or.inr (by omega) | (dsimp only; omega) | (dsimp only; intro h; omega) | (intro h; rcases h with h | h <;> contradiction))⟩ hP hD dX3_next_59
    | succ z_1 ih0 =>
      intro j0 hj0 _ he0   H locs hP hD hS ls hl
      refine lv_aload_n hx hb dX3_next_0 rfl (lv_at hl 0 rfl) ?_
      refine va_get (D := D) (ci := 3) (v := .int (nI (q + j0))) (C := RX3) (T := TX3) (N := 26) hx hb hts hinX3 hown hK hP 0 rfl rfl 13 (by decide) (hts (.fieldLink RX3 74 "HoldUnlessModel" "at" "I") (by decide +kernel)) (fun _ h9 => h9) rfl dX3_next_1 ?_
      refine lv_aload_n hx hb dX3_next_4 rfl (lv_at hl 0 rfl) ?_
      refine va_get (D := D) (ci := 3) (v := .int (nI t)) (C := RX3) (T := TX3) (N := 26) hx hb hts hinX3 hown hK hP 0 rfl rfl 8 (by decide) (hts (.fieldLink RX3 69 "HoldUnlessModel" "texted" "I") (by decide +kernel)) (fun _ h9 => h9) rfl dX3_next_5 ?_
      refine lv_icmp_ge (tgt := 38) hx hb dX3_next_8 (by decide) (fun hh_7 => absurd hh_7 (nI_ge (a := q + j0) (b := t) (by omega) (by omega))) (fun _ => ?_)
      refine lv_aload_n hx hb dX3_next_11 rfl (lv_at hl 0 rfl) ?_
      refine va_get (D := D) (ci := 3) (v := .ref (h 4)) (C := RX3) (T := TX3) (N := 26) hx hb hts hinX3 hown hK hP 0 rfl rfl 7 (by decide) (hts (.fieldLink RX3 19 "HoldUnlessModel" "text" "[I") (by decide +kernel)) (fun _ h9 => h9) rfl dX3_next_12 ?_
      refine lv_aload_n hx hb dX3_next_15 rfl (lv_at hl 0 rfl) ?_
      refine va_get (D := D) (ci := 3) (v := .int (nI (q + j0))) (C := RX3) (T := TX3) (N := 26) hx hb hts hinX3 hown hK hP 0 rfl rfl 13 (by decide) (hts (.fieldLink RX3 74 "HoldUnlessModel" "at" "I") (by decide +kernel)) (fun _ h9 => h9) rfl dX3_next_16 ?_
      refine wa_ild hx hb hK hP 4 3 rfl rfl (q + j0) rfl (by omega) (by decide) dX3_next_19 ?_
      refine lv_bipush (v := 32) hx hb dX3_next_20 (by decide) ?_
      refine lv_icmp_ne (tgt := 38) hx hb dX3_next_22 (by decide) (fun c_22_8 => ?_) (fun c_22_8 => ?_)
      · refine lv_aload_n hx hb dX3_next_38 rfl (lv_at hl 0 rfl) ?_
        refine lv_aload_n hx hb dX3_next_39 rfl (lv_at hl 0 rfl) ?_
        refine va_get (D := D) (ci := 3) (v := .int (nI (q + j0))) (C := RX3) (T := TX3) (N := 26) hx hb hts hinX3 hown hK hP 0 rfl rfl 13 (by decide) (hts (.fieldLink RX3 74 "HoldUnlessModel" "at" "I") (by decide +kernel)) (fun _ h9 => h9) rfl dX3_next_40 ?_
        refine va_put (D := D) (ci := 3) (v := .int (nI (q + j0))) (ty := .int) (C := RX3) (T := TX3) (N := 26) hx hb hts hinX3 tyX3 tyX3_ok nmX3 hown hK hP hD hS 0 rfl rfl 14 (by decide) (hts (.fieldLink RX3 77 "HoldUnlessModel" "from" "I") (by decide +kernel)) (fun _ h9 => h9) rfl (by decide +kernel) rfl rfl (Nat.le_of_ble_eq_true rfl) dX3_next_43 (fun H locs hP hD hS => ?_)
        replace hP : va_P D vwCl (wM h cA rl hd fi un on may asd tx (nI t) kp ko ka tr (nI (q + j0)) (nI (q + j0)) rhd rif rul prr prm rd bb nw ot ev od) H := hP
        replace hD : va_D A (wM h cA rl hd fi un on may asd tx (nI t) kp ko ka tr (nI (q + j0)) (nI (q + j0)) rhd rif rul prr prm rd bb nw ot ev od) := hD
        refine lv_aload_n hx hb dX3_next_46 rfl (lv_at hl 0 rfl) ?_
        refine va_get (D := D) (ci := 3) (v := .int (nI (q + j0))) (C := RX3) (T := TX3) (N := 26) hx hb hts hinX3 hown hK hP 0 rfl rfl 13 (by decide) (hts (.fieldLink RX3 74 "HoldUnlessModel" "at" "I") (by decide +kernel)) (fun _ h9 => h9) rfl dX3_next_47 ?_
        refine lv_aload_n hx hb dX3_next_50 rfl (lv_at hl 0 rfl) ?_
        refine va_get (D := D) (ci := 3) (v := .int (nI t)) (C := RX3) (T := TX3) (N := 26) hx hb hts hinX3 hown hK hP 0 rfl rfl 8 (by decide) (hts (.fieldLink RX3 69 "HoldUnlessModel" "texted" "I") (by decide +kernel)) (fun _ h9 => h9) rfl dX3_next_51 ?_
        refine lv_icmp_ne (tgt := 60) hx hb dX3_next_54 (by decide) (fun _ => ?_) (fun hh_10 => absurd hh_10 (fun h => by have := (nI_eq (by omega) (by omega)).mp h; omega))
        refine lv_aload_n hx hb dX3_next_60 rfl (lv_at hl 0 rfl) ?_
        refine va_get (D := D) (ci := 3) (v := .ref (h 4)) (C := RX3) (T := TX3) (N := 26) hx hb hts hinX3 hown hK hP 0 rfl rfl 7 (by decide) (hts (.fieldLink RX3 19 "HoldUnlessModel" "text" "[I") (by decide +kernel)) (fun _ h9 => h9) rfl dX3_next_61 ?_
        refine lv_aload_n hx hb dX3_next_64 rfl (lv_at hl 0 rfl) ?_
        refine va_get (D := D) (ci := 3) (v := .int (nI (q + j0))) (C := RX3) (T := TX3) (N := 26) hx hb hts hinX3 hown hK hP 0 rfl rfl 13 (by decide) (hts (.fieldLink RX3 74 "HoldUnlessModel" "at" "I") (by decide +kernel)) (fun _ h9 => h9) rfl dX3_next_65 ?_
        refine wa_ild hx hb hK hP 4 3 rfl rfl (q + j0) rfl (by omega) (by decide) dX3_next_68 ?_
        refine ro_i (D := D) (va_runS (As := [.int (tx (q + j0))]) (rest := []) ⟨hx, hb, hml, hown, hts⟩ (c_X3_isLetter l D (tx (q + j0))  _) (va_cwS 1 hts gX3_next_X3_isLetter rfl rfl rfl (by decide +kernel) ⟨Nat.le_of_ble_eq_true rfl, Nat.le_of_ble_eq_true rfl⟩) ⟨cPre.blind, cPre.mk vP0 hKe vD0 hN⟩ rfl rfl hl.1 rfl (lv_room (Nat.le_of_ble_eq_true rfl)) dX3_next_69 ⟨Nat.zero_le _, Nat.zero_le _⟩) hS hA (fun H locs hkp0 hS => ?_)
        replace hP := hkp0 _ hP
        refine lv_if_ne (tgt := 109) hx hb dX3_next_72 (by decide) (fun c_72_11 => ?_) (fun c_72_11 => ?_)
        · refine lv_lconst (v := 0) hx hb dX3_next_109 (by decide) ?_
          refine lv_lstore_n (lv' := [(1, .long 0), (0, .ref (h 0))]) hx hb dX3_next_110 rfl hl (by decide) rfl (fun ls hl => ?_)
          have lp111_12 : ∀ (z_12 j111 : Nat), j111 + z_12 = t - (q + j0) → ∀ (word : Int64), itE (f_X3_next_111 tx q j0) 0 j111 = .inr word → ∀  (H : Heap) (locs : List Loc), va_P D vwCl (wM h cA rl hd fi un on may asd tx (nI t) kp ko ka tr (nI ((q + j0) + j111)) (nI (q + j0)) rhd rif rul prr prm rd bb nw ot ev od) H → va_D A (wM h cA rl hd fi un on may asd tx (nI t) kp ko ka tr (nI ((q + j0) + j111)) (nI (q + j0)) rhd rif rul prr prm rd bb nw ot ev od) → va_S A s.heap H locs → ∀ ls : Array Slot, lv_has ls 3 [(0, .ref (h 0)), (1, .long word)] → W p l e (headSpec wsX3_next ({ frames := 1, cells := 0, slots := 0, locals := 20 })).room s m ([.ref (h 0)] : List Value).toArray below meth c H locs 0 0 (MQ below (va_Qi (fun (r : Int32) (u : Nat × Int32) => (r, u.1, u.2) = s_X3_next tx t q ∧ (u.1 ≤ t) ∧ (r = 14 ∨ q + 1 ≤ u.1)) (rwB D (fun u : Nat × Int32 => (wM h cA rl hd fi un on may asd tx (nI t) kp ko ka tr (nI u.1) u.2 rhd rif rul prr prm rd bb nw ot ev od)) A) A) ([.ref (h 0)] : List Value).toArray s 0 0 A) (F0 m 111 ls []) := by
            intro z_12
            induction z_12 with
            | zero =>
              intro j111 hj111 word he111   H locs hP hD hS ls hl
              obtain rfl : t - (q + j0) = j111 := by omega
              refine lv_aload_n hx hb dX3_next_111 rfl (lv_at hl 0 rfl) ?_
              refine va_get (D := D) (ci := 3) (v := .int (nI ((q + j0) + (t - (q + j0))))) (C := RX3) (T := TX3) (N := 26) hx hb hts hinX3 hown hK hP 0 rfl rfl 13 (by decide) (hts (.fieldLink RX3 74 "HoldUnlessModel" "at" "I") (by decide +kernel)) (fun _ h9 => h9) rfl dX3_next_112 ?_
              refine lv_aload_n hx hb dX3_next_115 rfl (lv_at hl 0 rfl) ?_
              refine va_get (D := D) (ci := 3) (v := .int (nI t)) (C := RX3) (T := TX3) (N := 26) hx hb hts hinX3 hown hK hP 0 rfl rfl 8 (by decide) (hts (.fieldLink RX3 69 "HoldUnlessModel" "texted" "I") (by decide +kernel)) (fun _ h9 => h9) rfl dX3_next_116 ?_
              refine lv_icmp_ge (tgt := 189) hx hb dX3_next_119 (by decide) (fun _ => ?_) (fun hh_14 => absurd (nI_le (a := t) (b := (q + j0) + (t - (q + j0))) (by omega) (by omega)) hh_14)
              refine lv_lload_n hx hb dX3_next_189 rfl (lv_at hl 1 rfl) ?_
              refine lv_ldc2 (v := 8) hx hb hown (hts (.constantLong RX3 67 (8)) (by decide +kernel)) dX3_next_190 ?_
              refine W.lcmp hx hb dX3_next_193 ?_
              refine lv_if_gt (tgt := 204) hx hb dX3_next_194 (by decide) (fun c_194_15 => ?_) (fun c_194_15 => ?_)
              · refine lv_lload_n hx hb dX3_next_204 rfl (lv_at hl 1 rfl) ?_
                refine lv_ldc2 (v := 294) hx hb hown (hts (.constantLong RX3 88 (294)) (by decide +kernel)) dX3_next_205 ?_
                refine W.lcmp hx hb dX3_next_208 ?_
                refine lv_if_ne (tgt := 217) hx hb dX3_next_209 (by decide) (fun c_209_16 => ?_) (fun c_209_16 => ?_)
                · refine lv_lload_n hx hb dX3_next_217 rfl (lv_at hl 1 rfl) ?_
                  refine lv_ldc2 (v := 719722099) hx hb hown (hts (.constantLong RX3 90 (719722099)) (by decide +kernel)) dX3_next_218 ?_
                  refine W.lcmp hx hb dX3_next_221 ?_
                  refine lv_if_ne (tgt := 230) hx hb dX3_next_222 (by decide) (fun c_222_17 => ?_) (fun c_222_17 => ?_)
                  · refine lv_lload_n hx hb dX3_next_230 rfl (lv_at hl 1 rfl) ?_
                    refine lv_ldc2 (v := 14866610) hx hb hown (hts (.constantLong RX3 92 (14866610)) (by decide +kernel)) dX3_next_231 ?_
                    refine W.lcmp hx hb dX3_next_234 ?_
                    refine lv_if_ne (tgt := 243) hx hb dX3_next_235 (by decide) (fun c_235_18 => ?_) (fun c_235_18 => ?_)
                    · refine lv_lload_n hx hb dX3_next_243 rfl (lv_at hl 1 rfl) ?_
                      refine lv_ldc2 (v := 13369) hx hb hown (hts (.constantLong RX3 94 (13369)) (by decide +kernel)) dX3_next_244 ?_
                      refine W.lcmp hx hb dX3_next_247 ?_
                      refine lv_if_ne (tgt := 256) hx hb dX3_next_248 (by decide) (fun c_248_19 => ?_) (fun c_248_19 => ?_)
                      · refine lv_bipush (v := 13) hx hb dX3_next_256 (by decide) ?_
                        have hs_20 : itE (f_X3_next_0 tx t q) () (j0 + 1) = (.inl (13, ((q + j0) + (t - (q + j0))), (nI (q + j0)))) := itE_succ he0 (by (unfold f_X3_next_0; (try dsimp only); (try rw [if_neg c_22_8]); (try rw [if_neg c_72_11]); (try rw [he111]); (try dsimp only [onE]); (try rw [if_pos c_194_15]); (try rw [if_neg c_209_16]); (try rw [if_neg c_222_17]); (try rw [if_neg c_235_18]); (try rw [if_neg c_248_19]); first | done | with_reducible rfl))
                        have hn_21 := itE_stop hs_20 (t - q) (by omega)
                        exact rw_iret hx hb hr hS hlocks (((q + j0) + (t - (q + j0))), (nI (q + j0))) ⟨(show s_X3_next tx t q = (13, ((q + j0) + (t - (q + j0))), (nI (q + j0))) from by (unfold s_X3_next; (try dsimp only); (try rw [hn_21]); (try dsimp only [onE]); first | done | with_reducible rfl)).symm, (by first | assumption | omega | rfl | exact Or.inl rfl | exact Or.inr (by omega) | (dsimp only; omega) | (dsimp only; intro h; omega) | (intro h; rcases h with h | h <;> contradiction)), (by first | assumption | omega | rfl | exact Or.inl rfl | exact Or.inr (by omega) | (dsimp only; omega) | (dsimp only; intro h; omega) | (intro h; rcases h with h | h <;> contradiction))⟩ hP hD dX3_next_258
                      · refine lv_bipush (v := 11) hx hb dX3_next_251 (by decide) ?_
                        refine lv_goto (tgt := 258) hx hb dX3_next_253 (by decide) ?_
                        have hs_22 : itE (f_X3_next_0 tx t q) () (j0 + 1) = (.inl (11, ((q + j0) + (t - (q + j0))), (nI (q + j0)))) := itE_succ he0 (by (unfold f_X3_next_0; (try dsimp only); (try rw [if_neg c_22_8]); (try rw [if_neg c_72_11]); (try rw [he111]); (try dsimp only [onE]); (try rw [if_pos c_194_15]); (try rw [if_neg c_209_16]); (try rw [if_neg c_222_17]); (try rw [if_neg c_235_18]); (try rw [if_pos c_248_19]); first | done | with_reducible rfl))
                        have hn_23 := itE_stop hs_22 (t - q) (by omega)
                        exact rw_iret hx hb hr hS hlocks (((q + j0) + (t - (q + j0))), (nI (q + j0))) ⟨(show s_X3_next tx t q = (11, ((q + j0) + (t - (q + j0))), (nI (q + j0))) from by (unfold s_X3_next; (try dsimp only); (try rw [hn_23]); (try dsimp only [onE]); first | done | with_reducible rfl)).symm, (by first | assumption | omega | rfl | exact Or.inl rfl | exact Or.inr (by omega) | (dsimp only; omega) | (dsimp only; intro h; omega) | (intro h; rcases h with h | h <;> contradiction)), (by first | assumption | omega | rfl | exact Or.inl rfl | exact Or.inr (by omega) | (dsimp only; omega) | (dsimp only; intro h; omega) | (intro h; rcases h with h | h <;> contradiction))⟩ hP hD dX3_next_258
                    · refine lv_bipush (v := 10) hx hb dX3_next_238 (by decide) ?_
                      refine lv_goto (tgt := 258) hx hb dX3_next_240 (by decide) ?_
                      have hs_24 : itE (f_X3_next_0 tx t q) () (j0 + 1) = (.inl (10, ((q + j0) + (t - (q + j0))), (nI (q + j0)))) := itE_succ he0 (by (unfold f_X3_next_0; (try dsimp only); (try rw [if_neg c_22_8]); (try rw [if_neg c_72_11]); (try rw [he111]); (try dsimp only [onE]); (try rw [if_pos c_194_15]); (try rw [if_neg c_209_16]); (try rw [if_neg c_222_17]); (try rw [if_pos c_235_18]); first | done | with_reducible rfl))
                      have hn_25 := itE_stop hs_24 (t - q) (by omega)
                      exact rw_iret hx hb hr hS hlocks (((q + j0) + (t - (q + j0))), (nI (q + j0))) ⟨(show s_X3_next tx t q = (10, ((q + j0) + (t - (q + j0))), (nI (q + j0))) from by (unfold s_X3_next; (try dsimp only); (try rw [hn_25]); (try dsimp only [onE]); first | done | with_reducible rfl)).symm, (by first | assumption | omega | rfl | exact Or.inl rfl | exact Or.inr (by omega) | (dsimp only; omega) | (dsimp only; intro h; omega) | (intro h; rcases h with h | h <;> contradiction)), (by first | assumption | omega | rfl | exact Or.inl rfl | exact Or.inr (by omega) | (dsimp only; omega) | (dsimp only; intro h; omega) | (intro h; rcases h with h | h <;> contradiction))⟩ hP hD dX3_next_258
                  · refine lv_bipush (v := 9) hx hb dX3_next_225 (by decide) ?_
                    refine lv_goto (tgt := 258) hx hb dX3_next_227 (by decide) ?_
                    have hs_26 : itE (f_X3_next_0 tx t q) () (j0 + 1) = (.inl (9, ((q + j0) + (t - (q + j0))), (nI (q + j0)))) := itE_succ he0 (by (unfold f_X3_next_0; (try dsimp only); (try rw [if_neg c_22_8]); (try rw [if_neg c_72_11]); (try rw [he111]); (try dsimp only [onE]); (try rw [if_pos c_194_15]); (try rw [if_neg c_209_16]); (try rw [if_pos c_222_17]); first | done | with_reducible rfl))
                    have hn_27 := itE_stop hs_26 (t - q) (by omega)
                    exact rw_iret hx hb hr hS hlocks (((q + j0) + (t - (q + j0))), (nI (q + j0))) ⟨(show s_X3_next tx t q = (9, ((q + j0) + (t - (q + j0))), (nI (q + j0))) from by (unfold s_X3_next; (try dsimp only); (try rw [hn_27]); (try dsimp only [onE]); first | done | with_reducible rfl)).symm, (by first | assumption | omega | rfl | exact Or.inl rfl | exact Or.inr (by omega) | (dsimp only; omega) | (dsimp only; intro h; omega) | (intro h; rcases h with h | h <;> contradiction)), (by first | assumption | omega | rfl | exact Or.inl rfl | exact Or.inr (by omega) | (dsimp only; omega) | (dsimp only; intro h; omega) | (intro h; rcases h with h | h <;> contradiction))⟩ hP hD dX3_next_258
                · refine lv_bipush (v := 8) hx hb dX3_next_212 (by decide) ?_
                  refine lv_goto (tgt := 258) hx hb dX3_next_214 (by decide) ?_
                  have hs_28 : itE (f_X3_next_0 tx t q) () (j0 + 1) = (.inl (8, ((q + j0) + (t - (q + j0))), (nI (q + j0)))) := itE_succ he0 (by (unfold f_X3_next_0; (try dsimp only); (try rw [if_neg c_22_8]); (try rw [if_neg c_72_11]); (try rw [he111]); (try dsimp only [onE]); (try rw [if_pos c_194_15]); (try rw [if_pos c_209_16]); first | done | with_reducible rfl))
                  have hn_29 := itE_stop hs_28 (t - q) (by omega)
                  exact rw_iret hx hb hr hS hlocks (((q + j0) + (t - (q + j0))), (nI (q + j0))) ⟨(show s_X3_next tx t q = (8, ((q + j0) + (t - (q + j0))), (nI (q + j0))) from by (unfold s_X3_next; (try dsimp only); (try rw [hn_29]); (try dsimp only [onE]); first | done | with_reducible rfl)).symm, (by first | assumption | omega | rfl | exact Or.inl rfl | exact Or.inr (by omega) | (dsimp only; omega) | (dsimp only; intro h; omega) | (intro h; rcases h with h | h <;> contradiction)), (by first | assumption | omega | rfl | exact Or.inl rfl | exact Or.inr (by omega) | (dsimp only; omega) | (dsimp only; intro h; omega) | (intro h; rcases h with h | h <;> contradiction))⟩ hP hD dX3_next_258
              · refine lv_lload_n hx hb dX3_next_197 rfl (lv_at hl 1 rfl) ?_
                refine lv_l2i hx hb dX3_next_198 rfl ?_
                refine lv_iconst (v := 1) hx hb dX3_next_199 (by decide) ?_
                refine lv_isub hx hb dX3_next_200 ?_
                refine lv_goto (tgt := 258) hx hb dX3_next_201 (by decide) ?_
                have hs_30 : itE (f_X3_next_0 tx t q) () (j0 + 1) = (.inl ((((word : Int64).toInt32) - 1), ((q + j0) + (t - (q + j0))), (nI (q + j0)))) := itE_succ he0 (by (unfold f_X3_next_0; (try dsimp only); (try rw [if_neg c_22_8]); (try rw [if_neg c_72_11]); (try rw [he111]); (try dsimp only [onE]); (try rw [if_neg c_194_15]); first | done | with_reducible rfl))
                have hn_31 := itE_stop hs_30 (t - q) (by omega)
                exact rw_iret hx hb hr hS hlocks (((q + j0) + (t - (q + j0))), (nI (q + j0))) ⟨(show s_X3_next tx t q = ((((word : Int64).toInt32) - 1), ((q + j0) + (t - (q + j0))), (nI (q + j0))) from by (unfold s_X3_next; (try dsimp only); (try rw [hn_31]); (try dsimp only [onE]); first | done | with_reducible rfl)).symm, (by first | assumption | omega | rfl | exact Or.inl rfl | exact Or.inr (by omega) | (dsimp only; omega) | (dsimp only; intro h; omega) | (intro h; rcases h with h | h <;> contradiction)), (by first | assumption | omega | rfl | exact Or.inl rfl | exact Or.inr (by omega) | (dsimp only; omega) | (dsimp only; intro h; omega) | (intro h; rcases h with h | h <;> contradiction))⟩ hP hD dX3_next_258
            | succ z_12 ih111 =>
              intro j111 hj111 word he111   H locs hP hD hS ls hl
              refine lv_aload_n hx hb dX3_next_111 rfl (lv_at hl 0 rfl) ?_
              refine va_get (D := D) (ci := 3) (v := .int (nI ((q + j0) + j111))) (C := RX3) (T := TX3) (N := 26) hx hb hts hinX3 hown hK hP 0 rfl rfl 13 (by decide) (hts (.fieldLink RX3 74 "HoldUnlessModel" "at" "I") (by decide +kernel)) (fun _ h9 => h9) rfl dX3_next_112 ?_
              refine lv_aload_n hx hb dX3_next_115 rfl (lv_at hl 0 rfl) ?_
              refine va_get (D := D) (ci := 3) (v := .int (nI t)) (C := RX3) (T := TX3) (N := 26) hx hb hts hinX3 hown hK hP 0 rfl rfl 8 (by decide) (hts (.fieldLink RX3 69 "HoldUnlessModel" "texted" "I") (by decide +kernel)) (fun _ h9 => h9) rfl dX3_next_116 ?_
              refine lv_icmp_ge (tgt := 189) hx hb dX3_next_119 (by decide) (fun hh_33 => absurd hh_33 (nI_ge (a := (q + j0) + j111) (b := t) (by omega) (by omega))) (fun _ => ?_)
              refine lv_aload_n hx hb dX3_next_122 rfl (lv_at hl 0 rfl) ?_
              refine va_get (D := D) (ci := 3) (v := .ref (h 4)) (C := RX3) (T := TX3) (N := 26) hx hb hts hinX3 hown hK hP 0 rfl rfl 7 (by decide) (hts (.fieldLink RX3 19 "HoldUnlessModel" "text" "[I") (by decide +kernel)) (fun _ h9 => h9) rfl dX3_next_123 ?_
              refine lv_aload_n hx hb dX3_next_126 rfl (lv_at hl 0 rfl) ?_
              refine va_get (D := D) (ci := 3) (v := .int (nI ((q + j0) + j111))) (C := RX3) (T := TX3) (N := 26) hx hb hts hinX3 hown hK hP 0 rfl rfl 13 (by decide) (hts (.fieldLink RX3 74 "HoldUnlessModel" "at" "I") (by decide +kernel)) (fun _ h9 => h9) rfl dX3_next_127 ?_
              refine wa_ild hx hb hK hP 4 3 rfl rfl ((q + j0) + j111) rfl (by omega) (by decide) dX3_next_130 ?_
              refine ro_i (D := D) (va_runS (As := [.int (tx ((q + j0) + j111))]) (rest := []) ⟨hx, hb, hml, hown, hts⟩ (c_X3_isLetter l D (tx ((q + j0) + j111))  _) (va_cwS 1 hts gX3_next_X3_isLetter rfl rfl rfl (by decide +kernel) ⟨Nat.le_of_ble_eq_true rfl, Nat.le_of_ble_eq_true rfl⟩) ⟨cPre.blind, cPre.mk vP0 hKe vD0 hN⟩ rfl rfl hl.1 rfl (lv_room (Nat.le_of_ble_eq_true rfl)) dX3_next_131 ⟨Nat.zero_le _, Nat.zero_le _⟩) hS hA (fun H locs hkp0 hS => ?_)
              replace hP := hkp0 _ hP
              refine lv_if_eq (tgt := 189) hx hb dX3_next_134 (by decide) (fun c_134_34 => ?_) (fun c_134_34 => ?_)
              · have hj1 : 1 ≤ j111 := Nat.pos_of_ne_zero (fun h => by subst h; exact c_72_11 c_134_34)
                refine lv_lload_n hx hb dX3_next_189 rfl (lv_at hl 1 rfl) ?_
                refine lv_ldc2 (v := 8) hx hb hown (hts (.constantLong RX3 67 (8)) (by decide +kernel)) dX3_next_190 ?_
                refine W.lcmp hx hb dX3_next_193 ?_
                refine lv_if_gt (tgt := 204) hx hb dX3_next_194 (by decide) (fun c_194_35 => ?_) (fun c_194_35 => ?_)
                · refine lv_lload_n hx hb dX3_next_204 rfl (lv_at hl 1 rfl) ?_
                  refine lv_ldc2 (v := 294) hx hb hown (hts (.constantLong RX3 88 (294)) (by decide +kernel)) dX3_next_205 ?_
                  refine W.lcmp hx hb dX3_next_208 ?_
                  refine lv_if_ne (tgt := 217) hx hb dX3_next_209 (by decide) (fun c_209_36 => ?_) (fun c_209_36 => ?_)
                  · refine lv_lload_n hx hb dX3_next_217 rfl (lv_at hl 1 rfl) ?_
                    refine lv_ldc2 (v := 719722099) hx hb hown (hts (.constantLong RX3 90 (719722099)) (by decide +kernel)) dX3_next_218 ?_
                    refine W.lcmp hx hb dX3_next_221 ?_
                    refine lv_if_ne (tgt := 230) hx hb dX3_next_222 (by decide) (fun c_222_37 => ?_) (fun c_222_37 => ?_)
                    · refine lv_lload_n hx hb dX3_next_230 rfl (lv_at hl 1 rfl) ?_
                      refine lv_ldc2 (v := 14866610) hx hb hown (hts (.constantLong RX3 92 (14866610)) (by decide +kernel)) dX3_next_231 ?_
                      refine W.lcmp hx hb dX3_next_234 ?_
                      refine lv_if_ne (tgt := 243) hx hb dX3_next_235 (by decide) (fun c_235_38 => ?_) (fun c_235_38 => ?_)
                      · refine lv_lload_n hx hb dX3_next_243 rfl (lv_at hl 1 rfl) ?_
                        refine lv_ldc2 (v := 13369) hx hb hown (hts (.constantLong RX3 94 (13369)) (by decide +kernel)) dX3_next_244 ?_
                        refine W.lcmp hx hb dX3_next_247 ?_
                        refine lv_if_ne (tgt := 256) hx hb dX3_next_248 (by decide) (fun c_248_39 => ?_) (fun c_248_39 => ?_)
                        · refine lv_bipush (v := 13) hx hb dX3_next_256 (by decide) ?_
                          have hs_40 : itE (f_X3_next_111 tx q j0) 0 (j111 + 1) = (.inl (.inl (13, ((q + j0) + j111), (nI (q + j0))))) := itE_succ he111 (by (unfold f_X3_next_111; (try dsimp only); (try rw [if_pos c_134_34]); (try rw [if_pos c_194_35]); (try rw [if_neg c_209_36]); (try rw [if_neg c_222_37]); (try rw [if_neg c_235_38]); (try rw [if_neg c_248_39]); first | done | with_reducible rfl))
                          have hn_41 := itE_stop hs_40 (t - (q + j0)) (by omega)
                          have hs_42 : itE (f_X3_next_0 tx t q) () (j0 + 1) = (.inl (13, ((q + j0) + j111), (nI (q + j0)))) := itE_succ he0 (by (unfold f_X3_next_0; (try dsimp only); (try rw [if_neg c_22_8]); (try rw [if_neg c_72_11]); (try rw [hn_41]); (try dsimp only [onE]); first | done | with_reducible rfl))
                          have hn_43 := itE_stop hs_42 (t - q) (by omega)
                          exact rw_iret hx hb hr hS hlocks (((q + j0) + j111), (nI (q + j0))) ⟨(show s_X3_next tx t q = (13, ((q + j0) + j111), (nI (q + j0))) from by (unfold s_X3_next; (try dsimp only); (try rw [hn_43]); (try dsimp only [onE]); first | done | with_reducible rfl)).symm, (by first | assumption | omega | rfl | exact Or.inl rfl | exact Or.inr (by omega) | (dsimp only; omega) | (dsimp only; intro h; omega) | (intro h; rcases h with h | h <;> contradiction)), (by first | assumption | omega | rfl | exact Or.inl rfl | exact Or.inr (by omega) | (dsimp only; omega) | (dsimp only; intro h; omega) | (intro h; rcases h with h | h <;> contradiction))⟩ hP hD dX3_next_258
                        · refine lv_bipush (v := 11) hx hb dX3_next_251 (by decide) ?_
                          refine lv_goto (tgt := 258) hx hb dX3_next_253 (by decide) ?_
                          have hs_44 : itE (f_X3_next_111 tx q j0) 0 (j111 + 1) = (.inl (.inl (11, ((q + j0) + j111), (nI (q + j0))))) := itE_succ he111 (by (unfold f_X3_next_111; (try dsimp only); (try rw [if_pos c_134_34]); (try rw [if_pos c_194_35]); (try rw [if_neg c_209_36]); (try rw [if_neg c_222_37]); (try rw [if_neg c_235_38]); (try rw [if_pos c_248_39]); first | done | with_reducible rfl))
                          have hn_45 := itE_stop hs_44 (t - (q + j0)) (by omega)
                          have hs_46 : itE (f_X3_next_0 tx t q) () (j0 + 1) = (.inl (11, ((q + j0) + j111), (nI (q + j0)))) := itE_succ he0 (by (unfold f_X3_next_0; (try dsimp only); (try rw [if_neg c_22_8]); (try rw [if_neg c_72_11]); (try rw [hn_45]); (try dsimp only [onE]); first | done | with_reducible rfl))
                          have hn_47 := itE_stop hs_46 (t - q) (by omega)
                          exact rw_iret hx hb hr hS hlocks (((q + j0) + j111), (nI (q + j0))) ⟨(show s_X3_next tx t q = (11, ((q + j0) + j111), (nI (q + j0))) from by (unfold s_X3_next; (try dsimp only); (try rw [hn_47]); (try dsimp only [onE]); first | done | with_reducible rfl)).symm, (by first | assumption | omega | rfl | exact Or.inl rfl | exact Or.inr (by omega) | (dsimp only; omega) | (dsimp only; intro h; omega) | (intro h; rcases h with h | h <;> contradiction)), (by first | assumption | omega | rfl | exact Or.inl rfl | exact Or.inr (by omega) | (dsimp only; omega) | (dsimp only; intro h; omega) | (intro h; rcases h with h | h <;> contradiction))⟩ hP hD dX3_next_258
                      · refine lv_bipush (v := 10) hx hb dX3_next_238 (by decide) ?_
                        refine lv_goto (tgt := 258) hx hb dX3_next_240 (by decide) ?_
                        have hs_48 : itE (f_X3_next_111 tx q j0) 0 (j111 + 1) = (.inl (.inl (10, ((q + j0) + j111), (nI (q + j0))))) := itE_succ he111 (by (unfold f_X3_next_111; (try dsimp only); (try rw [if_pos c_134_34]); (try rw [if_pos c_194_35]); (try rw [if_neg c_209_36]); (try rw [if_neg c_222_37]); (try rw [if_pos c_235_38]); first | done | with_reducible rfl))
                        have hn_49 := itE_stop hs_48 (t - (q + j0)) (by omega)
                        have hs_50 : itE (f_X3_next_0 tx t q) () (j0 + 1) = (.inl (10, ((q + j0) + j111), (nI (q + j0)))) := itE_succ he0 (by (unfold f_X3_next_0; (try dsimp only); (try rw [if_neg c_22_8]); (try rw [if_neg c_72_11]); (try rw [hn_49]); (try dsimp only [onE]); first | done | with_reducible rfl))
                        have hn_51 := itE_stop hs_50 (t - q) (by omega)
                        exact rw_iret hx hb hr hS hlocks (((q + j0) + j111), (nI (q + j0))) ⟨(show s_X3_next tx t q = (10, ((q + j0) + j111), (nI (q + j0))) from by (unfold s_X3_next; (try dsimp only); (try rw [hn_51]); (try dsimp only [onE]); first | done | with_reducible rfl)).symm, (by first | assumption | omega | rfl | exact Or.inl rfl | exact Or.inr (by omega) | (dsimp only; omega) | (dsimp only; intro h; omega) | (intro h; rcases h with h | h <;> contradiction)), (by first | assumption | omega | rfl | exact Or.inl rfl | exact Or.inr (by omega) | (dsimp only; omega) | (dsimp only; intro h; omega) | (intro h; rcases h with h | h <;> contradiction))⟩ hP hD dX3_next_258
                    · refine lv_bipush (v := 9) hx hb dX3_next_225 (by decide) ?_
                      refine lv_goto (tgt := 258) hx hb dX3_next_227 (by decide) ?_
                      have hs_52 : itE (f_X3_next_111 tx q j0) 0 (j111 + 1) = (.inl (.inl (9, ((q + j0) + j111), (nI (q + j0))))) := itE_succ he111 (by (unfold f_X3_next_111; (try dsimp only); (try rw [if_pos c_134_34]); (try rw [if_pos c_194_35]); (try rw [if_neg c_209_36]); (try rw [if_pos c_222_37]); first | done | with_reducible rfl))
                      have hn_53 := itE_stop hs_52 (t - (q + j0)) (by omega)
                      have hs_54 : itE (f_X3_next_0 tx t q) () (j0 + 1) = (.inl (9, ((q + j0) + j111), (nI (q + j0)))) := itE_succ he0 (by (unfold f_X3_next_0; (try dsimp only); (try rw [if_neg c_22_8]); (try rw [if_neg c_72_11]); (try rw [hn_53]); (try dsimp only [onE]); first | done | with_reducible rfl))
                      have hn_55 := itE_stop hs_54 (t - q) (by omega)
                      exact rw_iret hx hb hr hS hlocks (((q + j0) + j111), (nI (q + j0))) ⟨(show s_X3_next tx t q = (9, ((q + j0) + j111), (nI (q + j0))) from by (unfold s_X3_next; (try dsimp only); (try rw [hn_55]); (try dsimp only [onE]); first | done | with_reducible rfl)).symm, (by first | assumption | omega | rfl | exact Or.inl rfl | exact Or.inr (by omega) | (dsimp only; omega) | (dsimp only; intro h; omega) | (intro h; rcases h with h | h <;> contradiction)), (by first | assumption | omega | rfl | exact Or.inl rfl | exact Or.inr (by omega) | (dsimp only; omega) | (dsimp only; intro h; omega) | (intro h; rcases h with h | h <;> contradiction))⟩ hP hD dX3_next_258
                  · refine lv_bipush (v := 8) hx hb dX3_next_212 (by decide) ?_
                    refine lv_goto (tgt := 258) hx hb dX3_next_214 (by decide) ?_
                    have hs_56 : itE (f_X3_next_111 tx q j0) 0 (j111 + 1) = (.inl (.inl (8, ((q + j0) + j111), (nI (q + j0))))) := itE_succ he111 (by (unfold f_X3_next_111; (try dsimp only); (try rw [if_pos c_134_34]); (try rw [if_pos c_194_35]); (try rw [if_pos c_209_36]); first | done | with_reducible rfl))
                    have hn_57 := itE_stop hs_56 (t - (q + j0)) (by omega)
                    have hs_58 : itE (f_X3_next_0 tx t q) () (j0 + 1) = (.inl (8, ((q + j0) + j111), (nI (q + j0)))) := itE_succ he0 (by (unfold f_X3_next_0; (try dsimp only); (try rw [if_neg c_22_8]); (try rw [if_neg c_72_11]); (try rw [hn_57]); (try dsimp only [onE]); first | done | with_reducible rfl))
                    have hn_59 := itE_stop hs_58 (t - q) (by omega)
                    exact rw_iret hx hb hr hS hlocks (((q + j0) + j111), (nI (q + j0))) ⟨(show s_X3_next tx t q = (8, ((q + j0) + j111), (nI (q + j0))) from by (unfold s_X3_next; (try dsimp only); (try rw [hn_59]); (try dsimp only [onE]); first | done | with_reducible rfl)).symm, (by first | assumption | omega | rfl | exact Or.inl rfl | exact Or.inr (by omega) | (dsimp only; omega) | (dsimp only; intro h; omega) | (intro h; rcases h with h | h <;> contradiction)), (by first | assumption | omega | rfl | exact Or.inl rfl | exact Or.inr (by omega) | (dsimp only; omega) | (dsimp only; intro h; omega) | (intro h; rcases h with h | h <;> contradiction))⟩ hP hD dX3_next_258
                · refine lv_lload_n hx hb dX3_next_197 rfl (lv_at hl 1 rfl) ?_
                  refine lv_l2i hx hb dX3_next_198 rfl ?_
                  refine lv_iconst (v := 1) hx hb dX3_next_199 (by decide) ?_
                  refine lv_isub hx hb dX3_next_200 ?_
                  refine lv_goto (tgt := 258) hx hb dX3_next_201 (by decide) ?_
                  have hs_60 : itE (f_X3_next_111 tx q j0) 0 (j111 + 1) = (.inl (.inl ((((word : Int64).toInt32) - 1), ((q + j0) + j111), (nI (q + j0))))) := itE_succ he111 (by (unfold f_X3_next_111; (try dsimp only); (try rw [if_pos c_134_34]); (try rw [if_neg c_194_35]); first | done | with_reducible rfl))
                  have hn_61 := itE_stop hs_60 (t - (q + j0)) (by omega)
                  have hs_62 : itE (f_X3_next_0 tx t q) () (j0 + 1) = (.inl ((((word : Int64).toInt32) - 1), ((q + j0) + j111), (nI (q + j0)))) := itE_succ he0 (by (unfold f_X3_next_0; (try dsimp only); (try rw [if_neg c_22_8]); (try rw [if_neg c_72_11]); (try rw [hn_61]); (try dsimp only [onE]); first | done | with_reducible rfl))
                  have hn_63 := itE_stop hs_62 (t - q) (by omega)
                  exact rw_iret hx hb hr hS hlocks (((q + j0) + j111), (nI (q + j0))) ⟨(show s_X3_next tx t q = ((((word : Int64).toInt32) - 1), ((q + j0) + j111), (nI (q + j0))) from by (unfold s_X3_next; (try dsimp only); (try rw [hn_63]); (try dsimp only [onE]); first | done | with_reducible rfl)).symm, (by first | assumption | omega | rfl | exact Or.inl rfl | exact Or.inr (by omega) | (dsimp only; omega) | (dsimp only; intro h; omega) | (intro h; rcases h with h | h <;> contradiction)), (by first | assumption | omega | rfl | exact Or.inl rfl | exact Or.inr (by omega) | (dsimp only; omega) | (dsimp only; intro h; omega) | (intro h; rcases h with h | h <;> contradiction))⟩ hP hD dX3_next_258
              · refine lv_aload_n hx hb dX3_next_137 rfl (lv_at hl 0 rfl) ?_
                refine va_get (D := D) (ci := 3) (v := .int (nI ((q + j0) + j111))) (C := RX3) (T := TX3) (N := 26) hx hb hts hinX3 hown hK hP 0 rfl rfl 13 (by decide) (hts (.fieldLink RX3 74 "HoldUnlessModel" "at" "I") (by decide +kernel)) (fun _ h9 => h9) rfl dX3_next_138 ?_
                refine lv_aload_n hx hb dX3_next_141 rfl (lv_at hl 0 rfl) ?_
                refine va_get (D := D) (ci := 3) (v := .int (nI (q + j0))) (C := RX3) (T := TX3) (N := 26) hx hb hts hinX3 hown hK hP 0 rfl rfl 14 (by decide) (hts (.fieldLink RX3 77 "HoldUnlessModel" "from" "I") (by decide +kernel)) (fun _ h9 => h9) rfl dX3_next_142 ?_
                refine lv_isub hx hb dX3_next_145 ?_
                refine lv_bipush (v := 7) hx hb dX3_next_146 (by decide) ?_
                refine lv_icmp_ge (tgt := 174) hx hb dX3_next_148 (by decide) (fun c_148_64 => ?_) (fun c_148_64 => ?_)
                · refine lv_lload_n hx hb dX3_next_174 rfl (lv_at hl 1 rfl) ?_
                  refine lv_lstore_n (lv' := [(1, .long word), (0, .ref (h 0))]) hx hb dX3_next_175 rfl hl (by decide) rfl (fun ls hl => ?_)
                  refine lv_aload_n hx hb dX3_next_176 rfl (lv_at hl 1 rfl) ?_
                  refine lv_dup hx hb dX3_next_177 rfl ?_
                  refine va_get (D := D) (ci := 3) (v := .int (nI ((q + j0) + j111))) (C := RX3) (T := TX3) (N := 26) hx hb hts hinX3 hown hK hP 0 rfl rfl 13 (by decide) (hts (.fieldLink RX3 74 "HoldUnlessModel" "at" "I") (by decide +kernel)) (fun _ h9 => h9) rfl dX3_next_178 ?_
                  refine lv_iconst (v := 1) hx hb dX3_next_181 (by decide) ?_
                  refine lv_iadd hx hb dX3_next_182 ?_
                  refine lv_cv (nI_1 ((q + j0) + j111)) ?_
                  refine va_put (D := D) (ci := 3) (v := .int (nI (((q + j0) + j111) + 1))) (ty := .int) (C := RX3) (T := TX3) (N := 26) hx hb hts hinX3 tyX3 tyX3_ok nmX3 hown hK hP hD hS 0 rfl rfl 13 (by decide) (hts (.fieldLink RX3 74 "HoldUnlessModel" "at" "I") (by decide +kernel)) (fun _ h9 => h9) rfl (by decide +kernel) rfl rfl (Nat.le_of_ble_eq_true rfl) dX3_next_183 (fun H locs hP hD hS => ?_)
                  replace hP : va_P D vwCl (wM h cA rl hd fi un on may asd tx (nI t) kp ko ka tr (nI (((q + j0) + j111) + 1)) (nI (q + j0)) rhd rif rul prr prm rd bb nw ot ev od) H := hP
                  replace hD : va_D A (wM h cA rl hd fi un on may asd tx (nI t) kp ko ka tr (nI (((q + j0) + j111) + 1)) (nI (q + j0)) rhd rif rul prr prm rd bb nw ot ev od) := hD
                  refine lv_goto (tgt := 111) hx hb dX3_next_186 (by decide) ?_
                  exact ih111 (j111 + 1) (by omega) word (itE_succ he111 (by (unfold f_X3_next_111; (try dsimp only); (try rw [if_neg c_134_34]); (try rw [if_pos c_148_64]); first | done | with_reducible rfl)))   _ _ hP hD hS _ (lv_sub hl [1, 0] rfl)
                · refine lv_ldc2 (v := 32) hx hb hown (hts (.constantLong RX3 84 (32)) (by decide +kernel)) dX3_next_151 ?_
                  refine lv_lload_n hx hb dX3_next_154 rfl (lv_at hl 1 rfl) ?_
                  refine lv_lmul hx hb dX3_next_155 ?_
                  refine lv_aload_n hx hb dX3_next_156 rfl (lv_at hl 0 rfl) ?_
                  refine va_get (D := D) (ci := 3) (v := .ref (h 4)) (C := RX3) (T := TX3) (N := 26) hx hb hts hinX3 hown hK hP 0 rfl rfl 7 (by decide) (hts (.fieldLink RX3 19 "HoldUnlessModel" "text" "[I") (by decide +kernel)) (fun _ h9 => h9) rfl dX3_next_157 ?_
                  refine lv_aload_n hx hb dX3_next_160 rfl (lv_at hl 0 rfl) ?_
                  refine va_get (D := D) (ci := 3) (v := .int (nI ((q + j0) + j111))) (C := RX3) (T := TX3) (N := 26) hx hb hts hinX3 hown hK hP 0 rfl rfl 13 (by decide) (hts (.fieldLink RX3 74 "HoldUnlessModel" "at" "I") (by decide +kernel)) (fun _ h9 => h9) rfl dX3_next_161 ?_
                  refine wa_ild hx hb hK hP 4 3 rfl rfl ((q + j0) + j111) rfl (by omega) (by decide) dX3_next_164 ?_
                  refine lv_i2l hx hb dX3_next_165 rfl ?_
                  refine lv_ladd hx hb dX3_next_166 ?_
                  refine lv_ldc2 (v := 96) hx hb hown (hts (.constantLong RX3 86 (96)) (by decide +kernel)) dX3_next_167 ?_
                  refine lv_lsub hx hb dX3_next_170 ?_
                  refine lv_goto (tgt := 175) hx hb dX3_next_171 (by decide) ?_
                  refine lv_lstore_n (lv' := [(1, .long (((32 * word) + (((tx ((q + j0) + j111)) : Int32).toInt64)) - 96)), (0, .ref (h 0))]) hx hb dX3_next_175 rfl hl (by decide) rfl (fun ls hl => ?_)
                  refine lv_aload_n hx hb dX3_next_176 rfl (lv_at hl 1 rfl) ?_
                  refine lv_dup hx hb dX3_next_177 rfl ?_
                  refine va_get (D := D) (ci := 3) (v := .int (nI ((q + j0) + j111))) (C := RX3) (T := TX3) (N := 26) hx hb hts hinX3 hown hK hP 0 rfl rfl 13 (by decide) (hts (.fieldLink RX3 74 "HoldUnlessModel" "at" "I") (by decide +kernel)) (fun _ h9 => h9) rfl dX3_next_178 ?_
                  refine lv_iconst (v := 1) hx hb dX3_next_181 (by decide) ?_
                  refine lv_iadd hx hb dX3_next_182 ?_
                  refine lv_cv (nI_1 ((q + j0) + j111)) ?_
                  refine va_put (D := D) (ci := 3) (v := .int (nI (((q + j0) + j111) + 1))) (ty := .int) (C := RX3) (T := TX3) (N := 26) hx hb hts hinX3 tyX3 tyX3_ok nmX3 hown hK hP hD hS 0 rfl rfl 13 (by decide) (hts (.fieldLink RX3 74 "HoldUnlessModel" "at" "I") (by decide +kernel)) (fun _ h9 => h9) rfl (by decide +kernel) rfl rfl (Nat.le_of_ble_eq_true rfl) dX3_next_183 (fun H locs hP hD hS => ?_)
                  replace hP : va_P D vwCl (wM h cA rl hd fi un on may asd tx (nI t) kp ko ka tr (nI (((q + j0) + j111) + 1)) (nI (q + j0)) rhd rif rul prr prm rd bb nw ot ev od) H := hP
                  replace hD : va_D A (wM h cA rl hd fi un on may asd tx (nI t) kp ko ka tr (nI (((q + j0) + j111) + 1)) (nI (q + j0)) rhd rif rul prr prm rd bb nw ot ev od) := hD
                  refine lv_goto (tgt := 111) hx hb dX3_next_186 (by decide) ?_
                  exact ih111 (j111 + 1) (by omega) (((32 * word) + (((tx ((q + j0) + j111)) : Int32).toInt64)) - 96) (itE_succ he111 (by (unfold f_X3_next_111; (try dsimp only); (try rw [if_neg c_134_34]); (try rw [if_neg c_148_64]); first | done | with_reducible rfl)))   _ _ hP hD hS _ (lv_sub hl [1, 0] rfl)
          exact lp111_12 (t - (q + j0)) 0 (by omega) 0 (itE_zero _ _)   _ _ hP hD hS _ (lv_sub hl [1, 0] rfl)
        · refine lv_aload_n hx hb dX3_next_75 rfl (lv_at hl 0 rfl) ?_
          refine lv_dup hx hb dX3_next_76 rfl ?_
          refine va_get (D := D) (ci := 3) (v := .int (nI (q + j0))) (C := RX3) (T := TX3) (N := 26) hx hb hts hinX3 hown hK hP 0 rfl rfl 13 (by decide) (hts (.fieldLink RX3 74 "HoldUnlessModel" "at" "I") (by decide +kernel)) (fun _ h9 => h9) rfl dX3_next_77 ?_
          refine lv_iconst (v := 1) hx hb dX3_next_80 (by decide) ?_
          refine lv_iadd hx hb dX3_next_81 ?_
          refine lv_cv (nI_1 (q + j0)) ?_
          refine va_put (D := D) (ci := 3) (v := .int (nI ((q + j0) + 1))) (ty := .int) (C := RX3) (T := TX3) (N := 26) hx hb hts hinX3 tyX3 tyX3_ok nmX3 hown hK hP hD hS 0 rfl rfl 13 (by decide) (hts (.fieldLink RX3 74 "HoldUnlessModel" "at" "I") (by decide +kernel)) (fun _ h9 => h9) rfl (by decide +kernel) rfl rfl (Nat.le_of_ble_eq_true rfl) dX3_next_82 (fun H locs hP hD hS => ?_)
          replace hP : va_P D vwCl (wM h cA rl hd fi un on may asd tx (nI t) kp ko ka tr (nI ((q + j0) + 1)) (nI (q + j0)) rhd rif rul prr prm rd bb nw ot ev od) H := hP
          replace hD : va_D A (wM h cA rl hd fi un on may asd tx (nI t) kp ko ka tr (nI ((q + j0) + 1)) (nI (q + j0)) rhd rif rul prr prm rd bb nw ot ev od) := hD
          refine lv_aload_n hx hb dX3_next_85 rfl (lv_at hl 0 rfl) ?_
          refine va_get (D := D) (ci := 3) (v := .ref (h 4)) (C := RX3) (T := TX3) (N := 26) hx hb hts hinX3 hown hK hP 0 rfl rfl 7 (by decide) (hts (.fieldLink RX3 19 "HoldUnlessModel" "text" "[I") (by decide +kernel)) (fun _ h9 => h9) rfl dX3_next_86 ?_
          refine lv_aload_n hx hb dX3_next_89 rfl (lv_at hl 0 rfl) ?_
          refine va_get (D := D) (ci := 3) (v := .int (nI ((q + j0) + 1))) (C := RX3) (T := TX3) (N := 26) hx hb hts hinX3 hown hK hP 0 rfl rfl 13 (by decide) (hts (.fieldLink RX3 74 "HoldUnlessModel" "at" "I") (by decide +kernel)) (fun _ h9 => h9) rfl dX3_next_90 ?_
          refine lv_iconst (v := 1) hx hb dX3_next_93 (by decide) ?_
          refine lv_isub hx hb dX3_next_94 ?_
          refine lv_cv (nI_pred (q + j0)) ?_
          refine wa_ild hx hb hK hP 4 3 rfl rfl (q + j0) rfl (by omega) (by decide) dX3_next_95 ?_
          refine lv_bipush (v := 59) hx hb dX3_next_96 (by decide) ?_
          refine lv_icmp_ne (tgt := 106) hx hb dX3_next_98 (by decide) (fun c_98_65 => ?_) (fun c_98_65 => ?_)
          · refine lv_bipush (v := 13) hx hb dX3_next_106 (by decide) ?_
            have hs_66 : itE (f_X3_next_0 tx t q) () (j0 + 1) = (.inl (13, ((q + j0) + 1), (nI (q + j0)))) := itE_succ he0 (by (unfold f_X3_next_0; (try dsimp only); (try rw [if_neg c_22_8]); (try rw [if_pos c_72_11]); (try rw [if_neg c_98_65]); first | done | with_reducible rfl))
            have hn_67 := itE_stop hs_66 (t - q) (by omega)
            exact rw_iret hx hb hr hS hlocks (((q + j0) + 1), (nI (q + j0))) ⟨(show s_X3_next tx t q = (13, ((q + j0) + 1), (nI (q + j0))) from by (unfold s_X3_next; (try dsimp only); (try rw [hn_67]); (try dsimp only [onE]); first | done | with_reducible rfl)).symm, (by first | assumption | omega | rfl | exact Or.inl rfl | exact Or.inr (by omega) | (dsimp only; omega) | (dsimp only; intro h; omega) | (intro h; rcases h with h | h <;> contradiction)), (by first | assumption | omega | rfl | exact Or.inl rfl | exact Or.inr (by omega) | (dsimp only; omega) | (dsimp only; intro h; omega) | (intro h; rcases h with h | h <;> contradiction))⟩ hP hD dX3_next_108
          · refine lv_bipush (v := 12) hx hb dX3_next_101 (by decide) ?_
            refine lv_goto (tgt := 108) hx hb dX3_next_103 (by decide) ?_
            have hs_68 : itE (f_X3_next_0 tx t q) () (j0 + 1) = (.inl (12, ((q + j0) + 1), (nI (q + j0)))) := itE_succ he0 (by (unfold f_X3_next_0; (try dsimp only); (try rw [if_neg c_22_8]); (try rw [if_pos c_72_11]); (try rw [if_pos c_98_65]); first | done | with_reducible rfl))
            have hn_69 := itE_stop hs_68 (t - q) (by omega)
            exact rw_iret hx hb hr hS hlocks (((q + j0) + 1), (nI (q + j0))) ⟨(show s_X3_next tx t q = (12, ((q + j0) + 1), (nI (q + j0))) from by (unfold s_X3_next; (try dsimp only); (try rw [hn_69]); (try dsimp only [onE]); first | done | with_reducible rfl)).symm, (by first | assumption | omega | rfl | exact Or.inl rfl | exact Or.inr (by omega) | (dsimp only; omega) | (dsimp only; intro h; omega) | (intro h; rcases h with h | h <;> contradiction)), (by first | assumption | omega | rfl | exact Or.inl rfl | exact Or.inr (by omega) | (dsimp only; omega) | (dsimp only; intro h; omega) | (intro h; rcases h with h | h <;> contradiction))⟩ hP hD dX3_next_108
      · refine lv_aload_n hx hb dX3_next_25 rfl (lv_at hl 0 rfl) ?_
        refine lv_dup hx hb dX3_next_26 rfl ?_
        refine va_get (D := D) (ci := 3) (v := .int (nI (q + j0))) (C := RX3) (T := TX3) (N := 26) hx hb hts hinX3 hown hK hP 0 rfl rfl 13 (by decide) (hts (.fieldLink RX3 74 "HoldUnlessModel" "at" "I") (by decide +kernel)) (fun _ h9 => h9) rfl dX3_next_27 ?_
        refine lv_iconst (v := 1) hx hb dX3_next_30 (by decide) ?_
        refine lv_iadd hx hb dX3_next_31 ?_
        refine lv_cv (nI_1 (q + j0)) ?_
        refine va_put (D := D) (ci := 3) (v := .int (nI ((q + j0) + 1))) (ty := .int) (C := RX3) (T := TX3) (N := 26) hx hb hts hinX3 tyX3 tyX3_ok nmX3 hown hK hP hD hS 0 rfl rfl 13 (by decide) (hts (.fieldLink RX3 74 "HoldUnlessModel" "at" "I") (by decide +kernel)) (fun _ h9 => h9) rfl (by decide +kernel) rfl rfl (Nat.le_of_ble_eq_true rfl) dX3_next_32 (fun H locs hP hD hS => ?_)
        replace hP : va_P D vwCl (wM h cA rl hd fi un on may asd tx (nI t) kp ko ka tr (nI ((q + j0) + 1)) pfr rhd rif rul prr prm rd bb nw ot ev od) H := hP
        replace hD : va_D A (wM h cA rl hd fi un on may asd tx (nI t) kp ko ka tr (nI ((q + j0) + 1)) pfr rhd rif rul prr prm rd bb nw ot ev od) := hD
        refine lv_goto (tgt := 0) hx hb dX3_next_35 (by decide) ?_
        exact ih0 (j0 + 1) (by omega) () (itE_succ he0 (by (unfold f_X3_next_0; (try dsimp only); (try rw [if_pos c_22_8]); first | done | with_reducible rfl)))   _ _ hP hD hS _ (lv_sub hl [0] rfl)
  exact lp0_1 (t - q) 0 (by omega) () (itE_zero _ _)   _ _ hP hD hS _ (lv_sub hl [0] rfl)

def s_X3_take (rhd : Nat → Int32) (rif : Nat → Int32) (rul : Nat → Int32) (rr : Nat) (prm : Int32) (place : Int32) (token : Int32) : (Nat → Int32) × (Nat → Int32) × (Nat → Int32) × Nat × Int32 := (if place = 1 then ((upd rhd rr token), (upd rif rr 0), (upd rul rr 0), (rr + 1), prm) else (if place = 2 then ((upd rhd rr 8), (upd rif rr 0), (upd rul rr 0), (rr + 1), prm) else (if place = 4 then (rhd, (upd rif (rr - 1) ((rif (rr - 1)) ||| (1 <<< (token &&& 31)))), rul, rr, prm) else (if place = 6 then (rhd, rif, (upd rul (rr - 1) ((rul (rr - 1)) ||| (1 <<< (token &&& 31)))), rr, prm) else (if place = 8 then (rhd, rif, rul, rr, (prm ||| (1 <<< (token &&& 31)))) else (rhd, rif, rul, rr, prm))))))
set_option maxHeartbeats 4000000 in
set_option maxRecDepth 100000 in
theorem c_X3_take (l : Launch) (D : va_G) (h : Nat → Nat) (cA : Nat → ClassId) (rr : Nat) (rl : Int32) (hd : Nat → Int32) (fi : Nat → Int32) (un : Nat → Int32) (on : Int32) (may : Int32) (asd : Int32) (tx : Nat → Int32) (td : Int32) (kp : Nat → Int32) (ko : Nat → Int32) (ka : Nat → Int32) (tr : Int64) (pat : Int32) (pfr : Int32) (rhd : Nat → Int32) (rif : Nat → Int32) (rul : Nat → Int32) (prm : Int32) (rd : Nat → Int32) (bb : Nat → Int32) (nw : Nat → Int32) (ot : Nat → Int32) (ev : Nat → Int32) (od : Nat → Int32) (place : Int32) (token : Int32) (hrr : rr ≤ 10) (htk : tk_ok place rr) (sz : Nat) : Met l yX3_take wsX3_take ({ frames := 0, cells := 0, slots := 0, locals := 0 }) (va_Pc [.ref (h 0), .int place, .int token] (cPre D (tM h cA) (wM h cA rl hd fi un on may asd tx td kp ko ka tr pat pfr rhd rif rul (nI rr) prm rd bb nw ot ev od) sz)) (va_Qv (fun (u : (Nat → Int32) × (Nat → Int32) × (Nat → Int32) × Nat × Int32) => (u.1, u.2.1, u.2.2.1, u.2.2.2.1, u.2.2.2.2) = s_X3_take rhd rif rul rr prm place token ∧ (rr ≤ u.2.2.2.1) ∧ (u.2.2.2.1 ≤ 10) ∧ ((place = 1 ∨ place = 2) → 1 ≤ u.2.2.2.1)) (rwB D (fun u : (Nat → Int32) × (Nat → Int32) × (Nat → Int32) × Nat × Int32 => (wM h cA rl hd fi un on may asd tx td kp ko ka tr pat pfr u.1 u.2.1 u.2.2.1 (nI u.2.2.2.1) u.2.2.2.2 rd bb nw ot ev od)) (va_A (wM h cA rl hd fi un on may asd tx td kp ko ka tr pat pfr rhd rif rul (nI rr) prm rd bb nw ot ev od) sz)) (va_A (wM h cA rl hd fi un on may asd tx td kp ko ka tr pat pfr rhd rif rul (nI rr) prm rd bb nw ot ev od) sz)) 0 0 (va_A (wM h cA rl hd fi un on may asd tx td kp ko ka tr pat pfr rhd rif rul (nI rr) prm rd bb nw ot ev od) sz) := by
  refine Met.ofW (cc := cX3_take) (maxL := 3) (ret := none) (by decide) rfl ?_
  intro p e s m args below meth c s₁ B hml hv
  obtain ⟨rfl, hsz, hP, hK, hD, hN⟩ := hv
  have hx := B.exec
  have hb := B.bytes
  have hr := B.returns
  have hts := atoms_spec (ws := wsX3_take) B.pre
  have hown : s.vm.findClass RX3 = some m.cls := findClass_of_methodNamed B.named
  have hlocks := B.notSynchronized
  have hinX3 : ∀ w ∈ wsX30, w ∈ wsX3_take := fun w h => List.mem_cons_of_mem _ (List.mem_append_right _ h)
  subst hsz
  replace hD := hD.self (sz := s.heap.size)
  generalize hAe : va_A (wM h cA rl hd fi un on may asd tx td kp ko ka tr pat pfr rhd rif rul (nI rr) prm rd bb nw ot ev od) s.heap.size = A at hD ⊢
  have hA : ∀ q : Nat, s.heap.size ≤ q → A q := fun q h => by rw [← hAe]; exact Or.inr h
  have hS : va_S A s.heap s.heap [] := va_S.rf
  have hl := lv_entry ([.ref (h 0), .int place, .int token]) (n := 3) (Nat.le_of_ble_eq_true rfl)
  rw [lg_entry_eq]
  generalize (lg_sl ([.ref (h 0), .int place, .int token]) ++ List.replicate (3 - (lg_sl ([.ref (h 0), .int place, .int token])).length) Slot.unset).toArray = ls at hl ⊢
  replace hl : lv_has ls 3 [(0, .ref (h 0)), (1, .int place), (2, .int token)] := hl
  have hKe := hK.sub (tys' := []) [] rfl
  refine lv_iload_n hx hb dX3_take_0 rfl (lv_at hl 1 rfl) ?_
  refine lv_iconst (v := 1) hx hb dX3_take_1 (by decide) ?_
  refine lv_icmp_eq (tgt := 10) hx hb dX3_take_2 (by decide) (fun c_2_1 => ?_) (fun c_2_1 => ?_)
  · have h10 : rr < 10 := htk.1 (Or.inl c_2_1)
    refine lv_aload_n hx hb dX3_take_10 rfl (lv_at hl 0 rfl) ?_
    refine va_get (D := D) (ci := 3) (v := .ref (h 8)) (C := RX3) (T := TX3) (N := 26) hx hb hts hinX3 hown hK hP 0 rfl rfl 15 (by decide) (hts (.fieldLink RX3 32 "HoldUnlessModel" "readHead" "[I") (by decide +kernel)) (fun _ h9 => h9) rfl dX3_take_11 ?_
    refine lv_aload_n hx hb dX3_take_14 rfl (lv_at hl 0 rfl) ?_
    refine va_get (D := D) (ci := 3) (v := .int (nI rr)) (C := RX3) (T := TX3) (N := 26) hx hb hts hinX3 hown hK hP 0 rfl rfl 18 (by decide) (hts (.fieldLink RX3 96 "HoldUnlessModel" "readRules" "I") (by decide +kernel)) (fun _ h9 => h9) rfl dX3_take_15 ?_
    refine lv_iload_n hx hb dX3_take_18 rfl (lv_at hl 1 rfl) ?_
    refine lv_iconst (v := 1) hx hb dX3_take_19 (by decide) ?_
    refine lv_icmp_ne (tgt := 27) hx hb dX3_take_20 (by decide) (fun hh_3 => absurd c_2_1 hh_3) (fun _ => ?_)
    refine lv_iload_n hx hb dX3_take_23 rfl (lv_at hl 2 rfl) ?_
    refine lv_goto (tgt := 29) hx hb dX3_take_24 (by decide) ?_
    refine wa_ist hx hb hK hP hD hS 8 7 rfl rfl rr rfl (by omega) (by decide) dX3_take_29 (fun H locs hP hD hS => ?_)
    replace hP : va_P D vwCl (wM h cA rl hd fi un on may asd tx td kp ko ka tr pat pfr (upd rhd rr token) rif rul (nI rr) prm rd bb nw ot ev od) H := hP
    replace hD : va_D A (wM h cA rl hd fi un on may asd tx td kp ko ka tr pat pfr (upd rhd rr token) rif rul (nI rr) prm rd bb nw ot ev od) := hD
    refine lv_aload_n hx hb dX3_take_30 rfl (lv_at hl 0 rfl) ?_
    refine va_get (D := D) (ci := 3) (v := .ref (h 9)) (C := RX3) (T := TX3) (N := 26) hx hb hts hinX3 hown hK hP 0 rfl rfl 16 (by decide) (hts (.fieldLink RX3 35 "HoldUnlessModel" "readIfs" "[I") (by decide +kernel)) (fun _ h9 => h9) rfl dX3_take_31 ?_
    refine lv_aload_n hx hb dX3_take_34 rfl (lv_at hl 0 rfl) ?_
    refine va_get (D := D) (ci := 3) (v := .int (nI rr)) (C := RX3) (T := TX3) (N := 26) hx hb hts hinX3 hown hK hP 0 rfl rfl 18 (by decide) (hts (.fieldLink RX3 96 "HoldUnlessModel" "readRules" "I") (by decide +kernel)) (fun _ h9 => h9) rfl dX3_take_35 ?_
    refine lv_iconst (v := 0) hx hb dX3_take_38 (by decide) ?_
    refine wa_ist hx hb hK hP hD hS 9 8 rfl rfl rr rfl (by omega) (by decide) dX3_take_39 (fun H locs hP hD hS => ?_)
    replace hP : va_P D vwCl (wM h cA rl hd fi un on may asd tx td kp ko ka tr pat pfr (upd rhd rr token) (upd rif rr 0) rul (nI rr) prm rd bb nw ot ev od) H := hP
    replace hD : va_D A (wM h cA rl hd fi un on may asd tx td kp ko ka tr pat pfr (upd rhd rr token) (upd rif rr 0) rul (nI rr) prm rd bb nw ot ev od) := hD
    refine lv_aload_n hx hb dX3_take_40 rfl (lv_at hl 0 rfl) ?_
    refine va_get (D := D) (ci := 3) (v := .ref (h 10)) (C := RX3) (T := TX3) (N := 26) hx hb hts hinX3 hown hK hP 0 rfl rfl 17 (by decide) (hts (.fieldLink RX3 38 "HoldUnlessModel" "readUnless" "[I") (by decide +kernel)) (fun _ h9 => h9) rfl dX3_take_41 ?_
    refine lv_aload_n hx hb dX3_take_44 rfl (lv_at hl 0 rfl) ?_
    refine va_get (D := D) (ci := 3) (v := .int (nI rr)) (C := RX3) (T := TX3) (N := 26) hx hb hts hinX3 hown hK hP 0 rfl rfl 18 (by decide) (hts (.fieldLink RX3 96 "HoldUnlessModel" "readRules" "I") (by decide +kernel)) (fun _ h9 => h9) rfl dX3_take_45 ?_
    refine lv_iconst (v := 0) hx hb dX3_take_48 (by decide) ?_
    refine wa_ist hx hb hK hP hD hS 10 9 rfl rfl rr rfl (by omega) (by decide) dX3_take_49 (fun H locs hP hD hS => ?_)
    replace hP : va_P D vwCl (wM h cA rl hd fi un on may asd tx td kp ko ka tr pat pfr (upd rhd rr token) (upd rif rr 0) (upd rul rr 0) (nI rr) prm rd bb nw ot ev od) H := hP
    replace hD : va_D A (wM h cA rl hd fi un on may asd tx td kp ko ka tr pat pfr (upd rhd rr token) (upd rif rr 0) (upd rul rr 0) (nI rr) prm rd bb nw ot ev od) := hD
    refine lv_aload_n hx hb dX3_take_50 rfl (lv_at hl 0 rfl) ?_
    refine lv_dup hx hb dX3_take_51 rfl ?_
    refine va_get (D := D) (ci := 3) (v := .int (nI rr)) (C := RX3) (T := TX3) (N := 26) hx hb hts hinX3 hown hK hP 0 rfl rfl 18 (by decide) (hts (.fieldLink RX3 96 "HoldUnlessModel" "readRules" "I") (by decide +kernel)) (fun _ h9 => h9) rfl dX3_take_52 ?_
    refine lv_iconst (v := 1) hx hb dX3_take_55 (by decide) ?_
    refine lv_iadd hx hb dX3_take_56 ?_
    refine lv_cv (nI_1 rr) ?_
    refine va_put (D := D) (ci := 3) (v := .int (nI (rr + 1))) (ty := .int) (C := RX3) (T := TX3) (N := 26) hx hb hts hinX3 tyX3 tyX3_ok nmX3 hown hK hP hD hS 0 rfl rfl 18 (by decide) (hts (.fieldLink RX3 96 "HoldUnlessModel" "readRules" "I") (by decide +kernel)) (fun _ h9 => h9) rfl (by decide +kernel) rfl rfl (Nat.le_of_ble_eq_true rfl) dX3_take_57 (fun H locs hP hD hS => ?_)
    replace hP : va_P D vwCl (wM h cA rl hd fi un on may asd tx td kp ko ka tr pat pfr (upd rhd rr token) (upd rif rr 0) (upd rul rr 0) (nI (rr + 1)) prm rd bb nw ot ev od) H := hP
    replace hD : va_D A (wM h cA rl hd fi un on may asd tx td kp ko ka tr pat pfr (upd rhd rr token) (upd rif rr 0) (upd rul rr 0) (nI (rr + 1)) prm rd bb nw ot ev od) := hD
    refine lv_goto (tgt := 132) hx hb dX3_take_60 (by decide) ?_
    exact rw_vret hx hb hr hS hlocks ((upd rhd rr token), (upd rif rr 0), (upd rul rr 0), (rr + 1), prm) ⟨(show s_X3_take rhd rif rul rr prm place token = ((upd rhd rr token), (upd rif rr 0), (upd rul rr 0), (rr + 1), prm) from by (unfold s_X3_take; (try dsimp only); (try rw [if_pos c_2_1]); first | done | with_reducible rfl)).symm, (by first | assumption | omega | rfl | exact Or.inl rfl | exact Or.inr (by omega) | (dsimp only; omega) | (dsimp only; intro h; omega) | (intro h; rcases h with h | h <;> contradiction)), (by first | assumption | omega | rfl | exact Or.inl rfl | exact Or.inr (by omega) | (dsimp only; omega) | (dsimp only; intro h; omega) | (intro h; rcases h with h | h <;> contradiction)), (by first | assumption | omega | rfl | exact Or.inl rfl | exact Or.inr (by omega) | (dsimp only; omega) | (dsimp only; intro h; omega) | (intro h; rcases h with h | h <;> contradiction))⟩ hP hD dX3_take_132
  · refine lv_iload_n hx hb dX3_take_5 rfl (lv_at hl 1 rfl) ?_
    refine lv_iconst (v := 2) hx hb dX3_take_6 (by decide) ?_
    refine lv_icmp_ne (tgt := 63) hx hb dX3_take_7 (by decide) (fun c_7_4 => ?_) (fun c_7_4 => ?_)
    · refine lv_iload_n hx hb dX3_take_63 rfl (lv_at hl 1 rfl) ?_
      refine lv_iconst (v := 4) hx hb dX3_take_64 (by decide) ?_
      refine lv_icmp_ne (tgt := 88) hx hb dX3_take_65 (by decide) (fun c_65_5 => ?_) (fun c_65_5 => ?_)
      · refine lv_iload_n hx hb dX3_take_88 rfl (lv_at hl 1 rfl) ?_
        refine lv_bipush (v := 6) hx hb dX3_take_89 (by decide) ?_
        refine lv_icmp_ne (tgt := 114) hx hb dX3_take_91 (by decide) (fun c_91_6 => ?_) (fun c_91_6 => ?_)
        · refine lv_iload_n hx hb dX3_take_114 rfl (lv_at hl 1 rfl) ?_
          refine lv_bipush (v := 8) hx hb dX3_take_115 (by decide) ?_
          refine lv_icmp_ne (tgt := 132) hx hb dX3_take_117 (by decide) (fun c_117_7 => ?_) (fun c_117_7 => ?_)
          · exact rw_vret hx hb hr hS hlocks (rhd, rif, rul, rr, prm) ⟨(show s_X3_take rhd rif rul rr prm place token = (rhd, rif, rul, rr, prm) from by (unfold s_X3_take; (try dsimp only); (try rw [if_neg c_2_1]); (try rw [if_neg c_7_4]); (try rw [if_neg c_65_5]); (try rw [if_neg c_91_6]); (try rw [if_neg c_117_7]); first | done | with_reducible rfl)).symm, (by first | assumption | omega | rfl | exact Or.inl rfl | exact Or.inr (by omega) | (dsimp only; omega) | (dsimp only; intro h; omega) | (intro h; rcases h with h | h <;> contradiction)), (by first | assumption | omega | rfl | exact Or.inl rfl | exact Or.inr (by omega) | (dsimp only; omega) | (dsimp only; intro h; omega) | (intro h; rcases h with h | h <;> contradiction)), (by first | assumption | omega | rfl | exact Or.inl rfl | exact Or.inr (by omega) | (dsimp only; omega) | (dsimp only; intro h; omega) | (intro h; rcases h with h | h <;> contradiction))⟩ hP hD dX3_take_132
          · refine lv_aload_n hx hb dX3_take_120 rfl (lv_at hl 0 rfl) ?_
            refine lv_dup hx hb dX3_take_121 rfl ?_
            refine va_get (D := D) (ci := 3) (v := .int prm) (C := RX3) (T := TX3) (N := 26) hx hb hts hinX3 hown hK hP 0 rfl rfl 19 (by decide) (hts (.fieldLink RX3 99 "HoldUnlessModel" "readMay" "I") (by decide +kernel)) (fun _ h9 => h9) rfl dX3_take_122 ?_
            refine lv_iconst (v := 1) hx hb dX3_take_125 (by decide) ?_
            refine lv_iload_n hx hb dX3_take_126 rfl (lv_at hl 2 rfl) ?_
            refine lv_ishl hx hb dX3_take_127 ?_
            refine lv_ior hx hb dX3_take_128 ?_
            refine va_put (D := D) (ci := 3) (v := .int (prm ||| (1 <<< (token &&& 31)))) (ty := .int) (C := RX3) (T := TX3) (N := 26) hx hb hts hinX3 tyX3 tyX3_ok nmX3 hown hK hP hD hS 0 rfl rfl 19 (by decide) (hts (.fieldLink RX3 99 "HoldUnlessModel" "readMay" "I") (by decide +kernel)) (fun _ h9 => h9) rfl (by decide +kernel) rfl rfl (Nat.le_of_ble_eq_true rfl) dX3_take_129 (fun H locs hP hD hS => ?_)
            replace hP : va_P D vwCl (wM h cA rl hd fi un on may asd tx td kp ko ka tr pat pfr rhd rif rul (nI rr) (prm ||| (1 <<< (token &&& 31))) rd bb nw ot ev od) H := hP
            replace hD : va_D A (wM h cA rl hd fi un on may asd tx td kp ko ka tr pat pfr rhd rif rul (nI rr) (prm ||| (1 <<< (token &&& 31))) rd bb nw ot ev od) := hD
            exact rw_vret hx hb hr hS hlocks (rhd, rif, rul, rr, (prm ||| (1 <<< (token &&& 31)))) ⟨(show s_X3_take rhd rif rul rr prm place token = (rhd, rif, rul, rr, (prm ||| (1 <<< (token &&& 31)))) from by (unfold s_X3_take; (try dsimp only); (try rw [if_neg c_2_1]); (try rw [if_neg c_7_4]); (try rw [if_neg c_65_5]); (try rw [if_neg c_91_6]); (try rw [if_pos c_117_7]); first | done | with_reducible rfl)).symm, (by first | assumption | omega | rfl | exact Or.inl rfl | exact Or.inr (by omega) | (dsimp only; omega) | (dsimp only; intro h; omega) | (intro h; rcases h with h | h <;> contradiction)), (by first | assumption | omega | rfl | exact Or.inl rfl | exact Or.inr (by omega) | (dsimp only; omega) | (dsimp only; intro h; omega) | (intro h; rcases h with h | h <;> contradiction)), (by first | assumption | omega | rfl | exact Or.inl rfl | exact Or.inr (by omega) | (dsimp only; omega) | (dsimp only; intro h; omega) | (intro h; rcases h with h | h <;> contradiction))⟩ hP hD dX3_take_132
        · have h1r : 1 ≤ rr := htk.2 (Or.inr c_91_6)
          refine lv_aload_n hx hb dX3_take_94 rfl (lv_at hl 0 rfl) ?_
          refine va_get (D := D) (ci := 3) (v := .ref (h 10)) (C := RX3) (T := TX3) (N := 26) hx hb hts hinX3 hown hK hP 0 rfl rfl 17 (by decide) (hts (.fieldLink RX3 38 "HoldUnlessModel" "readUnless" "[I") (by decide +kernel)) (fun _ h9 => h9) rfl dX3_take_95 ?_
          refine lv_aload_n hx hb dX3_take_98 rfl (lv_at hl 0 rfl) ?_
          refine va_get (D := D) (ci := 3) (v := .int (nI rr)) (C := RX3) (T := TX3) (N := 26) hx hb hts hinX3 hown hK hP 0 rfl rfl 18 (by decide) (hts (.fieldLink RX3 96 "HoldUnlessModel" "readRules" "I") (by decide +kernel)) (fun _ h9 => h9) rfl dX3_take_99 ?_
          refine lv_iconst (v := 1) hx hb dX3_take_102 (by decide) ?_
          refine lv_isub hx hb dX3_take_103 ?_
          refine lv_cv (nI_m1 h1r) ?_
          refine lv_dup2_11 hx hb dX3_take_104 rfl rfl ?_
          refine wa_ild hx hb hK hP 10 9 rfl rfl (rr - 1) rfl (by omega) (by decide) dX3_take_105 ?_
          refine lv_iconst (v := 1) hx hb dX3_take_106 (by decide) ?_
          refine lv_iload_n hx hb dX3_take_107 rfl (lv_at hl 2 rfl) ?_
          refine lv_ishl hx hb dX3_take_108 ?_
          refine lv_ior hx hb dX3_take_109 ?_
          refine wa_ist hx hb hK hP hD hS 10 9 rfl rfl (rr - 1) rfl (by omega) (by decide) dX3_take_110 (fun H locs hP hD hS => ?_)
          replace hP : va_P D vwCl (wM h cA rl hd fi un on may asd tx td kp ko ka tr pat pfr rhd rif (upd rul (rr - 1) ((rul (rr - 1)) ||| (1 <<< (token &&& 31)))) (nI rr) prm rd bb nw ot ev od) H := hP
          replace hD : va_D A (wM h cA rl hd fi un on may asd tx td kp ko ka tr pat pfr rhd rif (upd rul (rr - 1) ((rul (rr - 1)) ||| (1 <<< (token &&& 31)))) (nI rr) prm rd bb nw ot ev od) := hD
          refine lv_goto (tgt := 132) hx hb dX3_take_111 (by decide) ?_
          exact rw_vret hx hb hr hS hlocks (rhd, rif, (upd rul (rr - 1) ((rul (rr - 1)) ||| (1 <<< (token &&& 31)))), rr, prm) ⟨(show s_X3_take rhd rif rul rr prm place token = (rhd, rif, (upd rul (rr - 1) ((rul (rr - 1)) ||| (1 <<< (token &&& 31)))), rr, prm) from by (unfold s_X3_take; (try dsimp only); (try rw [if_neg c_2_1]); (try rw [if_neg c_7_4]); (try rw [if_neg c_65_5]); (try rw [if_pos c_91_6]); first | done | with_reducible rfl)).symm, (by first | assumption | omega | rfl | exact Or.inl rfl | exact Or.inr (by omega) | (dsimp only; omega) | (dsimp only; intro h; omega) | (intro h; rcases h with h | h <;> contradiction)), (by first | assumption | omega | rfl | exact Or.inl rfl | exact Or.inr (by omega) | (dsimp only; omega) | (dsimp only; intro h; omega) | (intro h; rcases h with h | h <;> contradiction)), (by first | assumption | omega | rfl | exact Or.inl rfl | exact Or.inr (by omega) | (dsimp only; omega) | (dsimp only; intro h; omega) | (intro h; rcases h with h | h <;> contradiction))⟩ hP hD dX3_take_132
      · have h1r : 1 ≤ rr := htk.2 (Or.inl c_65_5)
        refine lv_aload_n hx hb dX3_take_68 rfl (lv_at hl 0 rfl) ?_
        refine va_get (D := D) (ci := 3) (v := .ref (h 9)) (C := RX3) (T := TX3) (N := 26) hx hb hts hinX3 hown hK hP 0 rfl rfl 16 (by decide) (hts (.fieldLink RX3 35 "HoldUnlessModel" "readIfs" "[I") (by decide +kernel)) (fun _ h9 => h9) rfl dX3_take_69 ?_
        refine lv_aload_n hx hb dX3_take_72 rfl (lv_at hl 0 rfl) ?_
        refine va_get (D := D) (ci := 3) (v := .int (nI rr)) (C := RX3) (T := TX3) (N := 26) hx hb hts hinX3 hown hK hP 0 rfl rfl 18 (by decide) (hts (.fieldLink RX3 96 "HoldUnlessModel" "readRules" "I") (by decide +kernel)) (fun _ h9 => h9) rfl dX3_take_73 ?_
        refine lv_iconst (v := 1) hx hb dX3_take_76 (by decide) ?_
        refine lv_isub hx hb dX3_take_77 ?_
        refine lv_cv (nI_m1 h1r) ?_
        refine lv_dup2_11 hx hb dX3_take_78 rfl rfl ?_
        refine wa_ild hx hb hK hP 9 8 rfl rfl (rr - 1) rfl (by omega) (by decide) dX3_take_79 ?_
        refine lv_iconst (v := 1) hx hb dX3_take_80 (by decide) ?_
        refine lv_iload_n hx hb dX3_take_81 rfl (lv_at hl 2 rfl) ?_
        refine lv_ishl hx hb dX3_take_82 ?_
        refine lv_ior hx hb dX3_take_83 ?_
        refine wa_ist hx hb hK hP hD hS 9 8 rfl rfl (rr - 1) rfl (by omega) (by decide) dX3_take_84 (fun H locs hP hD hS => ?_)
        replace hP : va_P D vwCl (wM h cA rl hd fi un on may asd tx td kp ko ka tr pat pfr rhd (upd rif (rr - 1) ((rif (rr - 1)) ||| (1 <<< (token &&& 31)))) rul (nI rr) prm rd bb nw ot ev od) H := hP
        replace hD : va_D A (wM h cA rl hd fi un on may asd tx td kp ko ka tr pat pfr rhd (upd rif (rr - 1) ((rif (rr - 1)) ||| (1 <<< (token &&& 31)))) rul (nI rr) prm rd bb nw ot ev od) := hD
        refine lv_goto (tgt := 132) hx hb dX3_take_85 (by decide) ?_
        exact rw_vret hx hb hr hS hlocks (rhd, (upd rif (rr - 1) ((rif (rr - 1)) ||| (1 <<< (token &&& 31)))), rul, rr, prm) ⟨(show s_X3_take rhd rif rul rr prm place token = (rhd, (upd rif (rr - 1) ((rif (rr - 1)) ||| (1 <<< (token &&& 31)))), rul, rr, prm) from by (unfold s_X3_take; (try dsimp only); (try rw [if_neg c_2_1]); (try rw [if_neg c_7_4]); (try rw [if_pos c_65_5]); first | done | with_reducible rfl)).symm, (by first | assumption | omega | rfl | exact Or.inl rfl | exact Or.inr (by omega) | (dsimp only; omega) | (dsimp only; intro h; omega) | (intro h; rcases h with h | h <;> contradiction)), (by first | assumption | omega | rfl | exact Or.inl rfl | exact Or.inr (by omega) | (dsimp only; omega) | (dsimp only; intro h; omega) | (intro h; rcases h with h | h <;> contradiction)), (by first | assumption | omega | rfl | exact Or.inl rfl | exact Or.inr (by omega) | (dsimp only; omega) | (dsimp only; intro h; omega) | (intro h; rcases h with h | h <;> contradiction))⟩ hP hD dX3_take_132
    · have h10 : rr < 10 := htk.1 (Or.inr c_7_4)
      refine lv_aload_n hx hb dX3_take_10 rfl (lv_at hl 0 rfl) ?_
      refine va_get (D := D) (ci := 3) (v := .ref (h 8)) (C := RX3) (T := TX3) (N := 26) hx hb hts hinX3 hown hK hP 0 rfl rfl 15 (by decide) (hts (.fieldLink RX3 32 "HoldUnlessModel" "readHead" "[I") (by decide +kernel)) (fun _ h9 => h9) rfl dX3_take_11 ?_
      refine lv_aload_n hx hb dX3_take_14 rfl (lv_at hl 0 rfl) ?_
      refine va_get (D := D) (ci := 3) (v := .int (nI rr)) (C := RX3) (T := TX3) (N := 26) hx hb hts hinX3 hown hK hP 0 rfl rfl 18 (by decide) (hts (.fieldLink RX3 96 "HoldUnlessModel" "readRules" "I") (by decide +kernel)) (fun _ h9 => h9) rfl dX3_take_15 ?_
      refine lv_iload_n hx hb dX3_take_18 rfl (lv_at hl 1 rfl) ?_
      refine lv_iconst (v := 1) hx hb dX3_take_19 (by decide) ?_
      refine lv_icmp_ne (tgt := 27) hx hb dX3_take_20 (by decide) (fun _ => ?_) (fun hh_9 => absurd hh_9 c_2_1)
      refine lv_bipush (v := 8) hx hb dX3_take_27 (by decide) ?_
      refine wa_ist hx hb hK hP hD hS 8 7 rfl rfl rr rfl (by omega) (by decide) dX3_take_29 (fun H locs hP hD hS => ?_)
      replace hP : va_P D vwCl (wM h cA rl hd fi un on may asd tx td kp ko ka tr pat pfr (upd rhd rr 8) rif rul (nI rr) prm rd bb nw ot ev od) H := hP
      replace hD : va_D A (wM h cA rl hd fi un on may asd tx td kp ko ka tr pat pfr (upd rhd rr 8) rif rul (nI rr) prm rd bb nw ot ev od) := hD
      refine lv_aload_n hx hb dX3_take_30 rfl (lv_at hl 0 rfl) ?_
      refine va_get (D := D) (ci := 3) (v := .ref (h 9)) (C := RX3) (T := TX3) (N := 26) hx hb hts hinX3 hown hK hP 0 rfl rfl 16 (by decide) (hts (.fieldLink RX3 35 "HoldUnlessModel" "readIfs" "[I") (by decide +kernel)) (fun _ h9 => h9) rfl dX3_take_31 ?_
      refine lv_aload_n hx hb dX3_take_34 rfl (lv_at hl 0 rfl) ?_
      refine va_get (D := D) (ci := 3) (v := .int (nI rr)) (C := RX3) (T := TX3) (N := 26) hx hb hts hinX3 hown hK hP 0 rfl rfl 18 (by decide) (hts (.fieldLink RX3 96 "HoldUnlessModel" "readRules" "I") (by decide +kernel)) (fun _ h9 => h9) rfl dX3_take_35 ?_
      refine lv_iconst (v := 0) hx hb dX3_take_38 (by decide) ?_
      refine wa_ist hx hb hK hP hD hS 9 8 rfl rfl rr rfl (by omega) (by decide) dX3_take_39 (fun H locs hP hD hS => ?_)
      replace hP : va_P D vwCl (wM h cA rl hd fi un on may asd tx td kp ko ka tr pat pfr (upd rhd rr 8) (upd rif rr 0) rul (nI rr) prm rd bb nw ot ev od) H := hP
      replace hD : va_D A (wM h cA rl hd fi un on may asd tx td kp ko ka tr pat pfr (upd rhd rr 8) (upd rif rr 0) rul (nI rr) prm rd bb nw ot ev od) := hD
      refine lv_aload_n hx hb dX3_take_40 rfl (lv_at hl 0 rfl) ?_
      refine va_get (D := D) (ci := 3) (v := .ref (h 10)) (C := RX3) (T := TX3) (N := 26) hx hb hts hinX3 hown hK hP 0 rfl rfl 17 (by decide) (hts (.fieldLink RX3 38 "HoldUnlessModel" "readUnless" "[I") (by decide +kernel)) (fun _ h9 => h9) rfl dX3_take_41 ?_
      refine lv_aload_n hx hb dX3_take_44 rfl (lv_at hl 0 rfl) ?_
      refine va_get (D := D) (ci := 3) (v := .int (nI rr)) (C := RX3) (T := TX3) (N := 26) hx hb hts hinX3 hown hK hP 0 rfl rfl 18 (by decide) (hts (.fieldLink RX3 96 "HoldUnlessModel" "readRules" "I") (by decide +kernel)) (fun _ h9 => h9) rfl dX3_take_45 ?_
      refine lv_iconst (v := 0) hx hb dX3_take_48 (by decide) ?_
      refine wa_ist hx hb hK hP hD hS 10 9 rfl rfl rr rfl (by omega) (by decide) dX3_take_49 (fun H locs hP hD hS => ?_)
      replace hP : va_P D vwCl (wM h cA rl hd fi un on may asd tx td kp ko ka tr pat pfr (upd rhd rr 8) (upd rif rr 0) (upd rul rr 0) (nI rr) prm rd bb nw ot ev od) H := hP
      replace hD : va_D A (wM h cA rl hd fi un on may asd tx td kp ko ka tr pat pfr (upd rhd rr 8) (upd rif rr 0) (upd rul rr 0) (nI rr) prm rd bb nw ot ev od) := hD
      refine lv_aload_n hx hb dX3_take_50 rfl (lv_at hl 0 rfl) ?_
      refine lv_dup hx hb dX3_take_51 rfl ?_
      refine va_get (D := D) (ci := 3) (v := .int (nI rr)) (C := RX3) (T := TX3) (N := 26) hx hb hts hinX3 hown hK hP 0 rfl rfl 18 (by decide) (hts (.fieldLink RX3 96 "HoldUnlessModel" "readRules" "I") (by decide +kernel)) (fun _ h9 => h9) rfl dX3_take_52 ?_
      refine lv_iconst (v := 1) hx hb dX3_take_55 (by decide) ?_
      refine lv_iadd hx hb dX3_take_56 ?_
      refine lv_cv (nI_1 rr) ?_
      refine va_put (D := D) (ci := 3) (v := .int (nI (rr + 1))) (ty := .int) (C := RX3) (T := TX3) (N := 26) hx hb hts hinX3 tyX3 tyX3_ok nmX3 hown hK hP hD hS 0 rfl rfl 18 (by decide) (hts (.fieldLink RX3 96 "HoldUnlessModel" "readRules" "I") (by decide +kernel)) (fun _ h9 => h9) rfl (by decide +kernel) rfl rfl (Nat.le_of_ble_eq_true rfl) dX3_take_57 (fun H locs hP hD hS => ?_)
      replace hP : va_P D vwCl (wM h cA rl hd fi un on may asd tx td kp ko ka tr pat pfr (upd rhd rr 8) (upd rif rr 0) (upd rul rr 0) (nI (rr + 1)) prm rd bb nw ot ev od) H := hP
      replace hD : va_D A (wM h cA rl hd fi un on may asd tx td kp ko ka tr pat pfr (upd rhd rr 8) (upd rif rr 0) (upd rul rr 0) (nI (rr + 1)) prm rd bb nw ot ev od) := hD
      refine lv_goto (tgt := 132) hx hb dX3_take_60 (by decide) ?_
      exact rw_vret hx hb hr hS hlocks ((upd rhd rr 8), (upd rif rr 0), (upd rul rr 0), (rr + 1), prm) ⟨(show s_X3_take rhd rif rul rr prm place token = ((upd rhd rr 8), (upd rif rr 0), (upd rul rr 0), (rr + 1), prm) from by (unfold s_X3_take; (try dsimp only); (try rw [if_neg c_2_1]); (try rw [if_pos c_7_4]); first | done | with_reducible rfl)).symm, (by first | assumption | omega | rfl | exact Or.inl rfl | exact Or.inr (by omega) | (dsimp only; omega) | (dsimp only; intro h; omega) | (intro h; rcases h with h | h <;> contradiction)), (by first | assumption | omega | rfl | exact Or.inl rfl | exact Or.inr (by omega) | (dsimp only; omega) | (dsimp only; intro h; omega) | (intro h; rcases h with h | h <;> contradiction)), (by first | assumption | omega | rfl | exact Or.inl rfl | exact Or.inr (by omega) | (dsimp only; omega) | (dsimp only; intro h; omega) | (intro h; rcases h with h | h <;> contradiction))⟩ hP hD dX3_take_132

def f_X3_rules_98 (rhd2 : Nat → Int32) (rif2 : Nat → Int32) (rul2 : Nat → Int32) (j98 : Nat) (st : (Nat → Int32) × (Nat → Int32) × (Nat → Int32)) : (Nat → Int32) × (Nat → Int32) × (Nat → Int32) := match st with | (hd9, fi9, un9) => ((upd hd9 j98 (rhd2 j98)), (upd fi9 j98 (rif2 j98)), (upd un9 j98 (rul2 j98)))
def f_X3_rules_98b (rhd2 : Nat → Int32) (rif2 : Nat → Int32) (rul2 : Nat → Int32) (j98 : Nat) (st : (Nat → Int32) × (Nat → Int32) × (Nat → Int32)) : (Nat → Int32) × (Nat → Int32) × (Nat → Int32) := match st with | (hd9, fi9, un9) => ((upd hd9 j98 (rhd2 j98)), (upd fi9 j98 (rif2 j98)), (upd un9 j98 (rul2 j98)))
def f_X3_rules_24 (tx : Nat → Int32) (t : Nat) (n : Nat) (hd : Nat → Int32) (fi : Nat → Int32) (un : Nat → Int32) (on : Int32) (may : Int32) (asd : Int32) (kp : Nat → Int32) (j24 : Nat) (st : Int32 × Int32 × Int32 × Nat × Int32 × (Nat → Int32) × (Nat → Int32) × (Nat → Int32) × Nat × Int32) : (Int32 × Nat × (Nat → Int32) × (Nat → Int32) × (Nat → Int32) × Int32 × Int32 × Int32 × (Nat → Int32) × Nat) ⊕ (Int32 × Int32 × Int32 × Nat × Int32 × (Nat → Int32) × (Nat → Int32) × (Nat → Int32) × Nat × Int32) := match st with | (items, pl2, tk2, q2, fr2, rhd2, rif2, rul2, rr2, prm2) => (if tk2 = 14 then (if pl2 = 0 then (match itr (f_X3_rules_98b rhd2 rif2 rul2) (hd, fi, un) rr2 with | (hd9, fi9, un9) => (.inl (items, rr2, hd9, fi9, un9, ((1 <<< ((nI rr2) &&& 31)) - 1), prm2, 0, (upd (upd kp (0 : Int32).toNatClampNeg (vp_nar .boolean 0)) (1 : Int32).toNatClampNeg (vp_nar .boolean 0)), 0))) else (.inl (((-10) - (nI t)), n, hd, fi, un, on, may, asd, kp, t))) else (if 0 ≤ (s_X3_goesTo rr2 pl2 tk2) then (match s_X3_take rhd2 rif2 rul2 rr2 prm2 (s_X3_goesTo rr2 pl2 tk2) tk2 with | (rhdv_28, rifv_29, rulv_30, prrv_31, prmv_32) => (if (s_X3_goesTo rr2 pl2 tk2) = 0 then (match s_X3_next tx t q2 with | (rv_47, patv_45, pfrv_46) => (.inr ((items + 1), (s_X3_goesTo rr2 pl2 tk2), rv_47, patv_45, pfrv_46, rhdv_28, rifv_29, rulv_30, prrv_31, prmv_32))) else (match s_X3_next tx t q2 with | (rv_41, patv_39, pfrv_40) => (.inr ((items + 0), (s_X3_goesTo rr2 pl2 tk2), rv_41, patv_39, pfrv_40, rhdv_28, rifv_29, rulv_30, prrv_31, prmv_32))))) else (.inl (((-10) - fr2), n, hd, fi, un, on, may, asd, kp, t))))
def s_X3_rules (tx : Nat → Int32) (t : Nat) (n : Nat) (hd : Nat → Int32) (fi : Nat → Int32) (un : Nat → Int32) (on : Int32) (may : Int32) (asd : Int32) (kp : Nat → Int32) (rhd : Nat → Int32) (rif : Nat → Int32) (rul : Nat → Int32) : Int32 × Nat × (Nat → Int32) × (Nat → Int32) × (Nat → Int32) × Int32 × Int32 × Int32 × (Nat → Int32) × Nat := (match s_X3_next tx t 0 with | (rv_3, patv_1, pfrv_2) => (onE (itE (f_X3_rules_24 tx t n hd fi un on may asd kp) (0, 0, rv_3, patv_1, pfrv_2, rhd, rif, rul, 0, 0) 300) (fun st => match st with | (items, pl2, tk2, q2, fr2, rhd2, rif2, rul2, rr2, prm2) => (if pl2 = 0 then (match itr (f_X3_rules_98 rhd2 rif2 rul2) (hd, fi, un) rr2 with | (hd9, fi9, un9) => (items, rr2, hd9, fi9, un9, ((1 <<< ((nI rr2) &&& 31)) - 1), prm2, 0, (upd (upd kp (0 : Int32).toNatClampNeg (vp_nar .boolean 0)) (1 : Int32).toNatClampNeg (vp_nar .boolean 0)), 0)) else (((-10) - (nI t)), n, hd, fi, un, on, may, asd, kp, t)))))
set_option maxHeartbeats 4000000 in
set_option maxRecDepth 100000 in
theorem c_X3_rules (l : Launch) (D : va_G) (h : Nat → Nat) (cA : Nat → ClassId) (n : Nat) (t : Nat) (hd : Nat → Int32) (fi : Nat → Int32) (un : Nat → Int32) (on : Int32) (may : Int32) (asd : Int32) (tx : Nat → Int32) (kp : Nat → Int32) (ko : Nat → Int32) (ka : Nat → Int32) (tr : Int64) (pat : Int32) (pfr : Int32) (rhd : Nat → Int32) (rif : Nat → Int32) (rul : Nat → Int32) (prr : Int32) (prm : Int32) (rd : Nat → Int32) (bb : Nat → Int32) (nw : Nat → Int32) (ot : Nat → Int32) (ev : Nat → Int32) (od : Nat → Int32) (hn : n ≤ 10) (ht : t ≤ 300) (sz : Nat) : Met l yX3_rules wsX3_rules ({ frames := 2, cells := 0, slots := 0, locals := 42 }) (va_Pc [.ref (h 0)] (cPre D (tM h cA) (wM h cA (nI n) hd fi un on may asd tx (nI t) kp ko ka tr pat pfr rhd rif rul prr prm rd bb nw ot ev od) sz)) (va_Qi (fun (r : Int32) (u : Nat × (Nat → Int32) × (Nat → Int32) × (Nat → Int32) × Int32 × Int32 × Int32 × (Nat → Int32) × Nat × Int32 × Int32 × (Nat → Int32) × (Nat → Int32) × (Nat → Int32) × Int32 × Int32) => (r, u.1, u.2.1, u.2.2.1, u.2.2.2.1, u.2.2.2.2.1, u.2.2.2.2.2.1, u.2.2.2.2.2.2.1, u.2.2.2.2.2.2.2.1, u.2.2.2.2.2.2.2.2.1) = s_X3_rules tx t n hd fi un on may asd kp rhd rif rul ∧ (u.1 ≤ 10) ∧ (u.2.2.2.2.2.2.2.2.1 ≤ 300)) (rwB D (fun u : Nat × (Nat → Int32) × (Nat → Int32) × (Nat → Int32) × Int32 × Int32 × Int32 × (Nat → Int32) × Nat × Int32 × Int32 × (Nat → Int32) × (Nat → Int32) × (Nat → Int32) × Int32 × Int32 => (wM h cA (nI u.1) u.2.1 u.2.2.1 u.2.2.2.1 u.2.2.2.2.1 u.2.2.2.2.2.1 u.2.2.2.2.2.2.1 tx (nI u.2.2.2.2.2.2.2.2.1) u.2.2.2.2.2.2.2.1 ko ka tr u.2.2.2.2.2.2.2.2.2.1 u.2.2.2.2.2.2.2.2.2.2.1 u.2.2.2.2.2.2.2.2.2.2.2.1 u.2.2.2.2.2.2.2.2.2.2.2.2.1 u.2.2.2.2.2.2.2.2.2.2.2.2.2.1 u.2.2.2.2.2.2.2.2.2.2.2.2.2.2.1 u.2.2.2.2.2.2.2.2.2.2.2.2.2.2.2 rd bb nw ot ev od)) (va_A (wM h cA (nI n) hd fi un on may asd tx (nI t) kp ko ka tr pat pfr rhd rif rul prr prm rd bb nw ot ev od) sz)) (va_A (wM h cA (nI n) hd fi un on may asd tx (nI t) kp ko ka tr pat pfr rhd rif rul prr prm rd bb nw ot ev od) sz)) 0 0 (va_A (wM h cA (nI n) hd fi un on may asd tx (nI t) kp ko ka tr pat pfr rhd rif rul prr prm rd bb nw ot ev od) sz) := by
  refine Met.ofW (cc := cX3_rules) (maxL := 5) (ret := (some .int)) (by decide) rfl ?_
  intro p e s m args below meth c s₁ B hml hv
  obtain ⟨rfl, hsz, hP, hK, hD, hN⟩ := hv
  have hx := B.exec
  have hb := B.bytes
  have hr := B.returns
  have hts := atoms_spec (ws := wsX3_rules) B.pre
  have hown : s.vm.findClass RX3 = some m.cls := findClass_of_methodNamed B.named
  have hlocks := B.notSynchronized
  have hinX3 : ∀ w ∈ wsX30, w ∈ wsX3_rules := fun w h => List.mem_cons_of_mem _ (List.mem_append_right _ h)
  subst hsz
  replace hD := hD.self (sz := s.heap.size)
  generalize hAe : va_A (wM h cA (nI n) hd fi un on may asd tx (nI t) kp ko ka tr pat pfr rhd rif rul prr prm rd bb nw ot ev od) s.heap.size = A at hD ⊢
  have hA : ∀ q : Nat, s.heap.size ≤ q → A q := fun q h => by rw [← hAe]; exact Or.inr h
  have hS : va_S A s.heap s.heap [] := va_S.rf
  have hl := lv_entry ([.ref (h 0)]) (n := 5) (Nat.le_of_ble_eq_true rfl)
  rw [lg_entry_eq]
  generalize (lg_sl ([.ref (h 0)]) ++ List.replicate (5 - (lg_sl ([.ref (h 0)])).length) Slot.unset).toArray = ls at hl ⊢
  replace hl : lv_has ls 5 [(0, .ref (h 0))] := hl
  have hKe := hK.sub (tys' := []) [] rfl
  refine lv_aload_n hx hb dX3_rules_0 rfl (lv_at hl 0 rfl) ?_
  refine lv_iconst (v := 0) hx hb dX3_rules_1 (by decide) ?_
  refine va_put (D := D) (ci := 3) (v := .int 0) (ty := .int) (C := RX3) (T := TX3) (N := 26) hx hb hts hinX3 tyX3 tyX3_ok nmX3 hown hK hP hD hS 0 rfl rfl 13 (by decide) (hts (.fieldLink RX3 74 "HoldUnlessModel" "at" "I") (by decide +kernel)) (fun _ h9 => h9) rfl (by decide +kernel) rfl rfl (Nat.le_of_ble_eq_true rfl) dX3_rules_2 (fun H locs hP hD hS => ?_)
  replace hP : va_P D vwCl (wM h cA (nI n) hd fi un on may asd tx (nI t) kp ko ka tr 0 pfr rhd rif rul prr prm rd bb nw ot ev od) H := hP
  replace hD : va_D A (wM h cA (nI n) hd fi un on may asd tx (nI t) kp ko ka tr 0 pfr rhd rif rul prr prm rd bb nw ot ev od) := hD
  refine lv_aload_n hx hb dX3_rules_5 rfl (lv_at hl 0 rfl) ?_
  refine lv_iconst (v := 0) hx hb dX3_rules_6 (by decide) ?_
  refine va_put (D := D) (ci := 3) (v := .int 0) (ty := .int) (C := RX3) (T := TX3) (N := 26) hx hb hts hinX3 tyX3 tyX3_ok nmX3 hown hK hP hD hS 0 rfl rfl 18 (by decide) (hts (.fieldLink RX3 96 "HoldUnlessModel" "readRules" "I") (by decide +kernel)) (fun _ h9 => h9) rfl (by decide +kernel) rfl rfl (Nat.le_of_ble_eq_true rfl) dX3_rules_7 (fun H locs hP hD hS => ?_)
  replace hP : va_P D vwCl (wM h cA (nI n) hd fi un on may asd tx (nI t) kp ko ka tr 0 pfr rhd rif rul 0 prm rd bb nw ot ev od) H := hP
  replace hD : va_D A (wM h cA (nI n) hd fi un on may asd tx (nI t) kp ko ka tr 0 pfr rhd rif rul 0 prm rd bb nw ot ev od) := hD
  refine lv_aload_n hx hb dX3_rules_10 rfl (lv_at hl 0 rfl) ?_
  refine lv_iconst (v := 0) hx hb dX3_rules_11 (by decide) ?_
  refine va_put (D := D) (ci := 3) (v := .int 0) (ty := .int) (C := RX3) (T := TX3) (N := 26) hx hb hts hinX3 tyX3 tyX3_ok nmX3 hown hK hP hD hS 0 rfl rfl 19 (by decide) (hts (.fieldLink RX3 99 "HoldUnlessModel" "readMay" "I") (by decide +kernel)) (fun _ h9 => h9) rfl (by decide +kernel) rfl rfl (Nat.le_of_ble_eq_true rfl) dX3_rules_12 (fun H locs hP hD hS => ?_)
  replace hP : va_P D vwCl (wM h cA (nI n) hd fi un on may asd tx (nI t) kp ko ka tr 0 pfr rhd rif rul 0 0 rd bb nw ot ev od) H := hP
  replace hD : va_D A (wM h cA (nI n) hd fi un on may asd tx (nI t) kp ko ka tr 0 pfr rhd rif rul 0 0 rd bb nw ot ev od) := hD
  refine lv_iconst (v := 0) hx hb dX3_rules_15 (by decide) ?_
  refine lv_istore_n (lv' := [(1, .int 0), (0, .ref (h 0))]) hx hb dX3_rules_16 rfl hl (by decide) rfl (fun ls hl => ?_)
  refine lv_iconst (v := 0) hx hb dX3_rules_17 (by decide) ?_
  refine lv_istore_n (lv' := [(2, .int 0), (1, .int 0), (0, .ref (h 0))]) hx hb dX3_rules_18 rfl hl (by decide) rfl (fun ls hl => ?_)
  refine lv_aload_n hx hb dX3_rules_19 rfl (lv_at hl 2 rfl) ?_
  have hFc := va_free (wc := (wM h cA (nI n) hd fi un on may asd tx (nI t) kp ko ka tr 0 pfr rhd rif rul 0 0 rd bb nw ot ev od)) hD hS hA [0, 1, 2, 3, 4, 5, 6, 7, 8, 9, 10, 11, 12, 13, 14, 15, 16] rfl
  refine rw_i (D := D) (wc := (wM h cA (nI n) hd fi un on may asd tx (nI t) kp ko ka tr 0 pfr rhd rif rul 0 0 rd bb nw ot ev od)) (va_runV (As := []) (rest := []) ⟨hx, hb, hml, hown, hts⟩ (c_X3_next l D h cA t 0 (nI n) hd fi un on may asd tx kp ko ka tr pfr rhd rif rul 0 0 rd bb nw ot ev od (by first | assumption | omega) (by first | assumption | omega) _) (cwV 0 hts gX3_rules_X3_next rfl rfl rfl (by decide +kernel) ⟨Nat.le_of_ble_eq_true rfl, Nat.le_of_ble_eq_true rfl⟩) ⟨cPre.blind, va_recv hK hP (ci := 3) (q0 := 0) rfl rfl, cPre.mk hP hK hD hN⟩ rfl rfl hl.1 rfl (lv_room (Nat.le_of_ble_eq_true rfl)) dX3_rules_20 ⟨Nat.zero_le _, Nat.zero_le _⟩) hS hFc (fun rv_3 u H1 locs hw_4 hP1 hD1 hk1 hS => ?_)
  obtain ⟨patv_1, pfrv_2⟩ := u
  try dsimp only at hw_4
  obtain ⟨hw_4, hpx_5, hpx_6⟩ := hw_4
  have hP : va_P D vwCl (wM h cA (nI n) hd fi un on may asd tx (nI t) kp ko ka tr (nI patv_1) pfrv_2 rhd rif rul 0 0 rd bb nw ot ev od) H1 := hP1
  have hD : va_D A (wM h cA (nI n) hd fi un on may asd tx (nI t) kp ko ka tr (nI patv_1) pfrv_2 rhd rif rul 0 0 rd bb nw ot ev od) := hD1.weaken (fun k q hk h => hFc _ h)
  clear hP1 hD1 hFc hk1
  generalize H1 = H at hP hS ⊢
  refine lv_istore_n (lv' := [(3, .int rv_3), (2, .int 0), (1, .int 0), (0, .ref (h 0))]) hx hb dX3_rules_23 rfl hl (by decide) rfl (fun ls hl => ?_)
  have lp24_7 : ∀ (z_7 j24 : Nat), j24 + z_7 = 300 → ∀ (items : Int32) (pl2 : Int32) (tk2 : Int32) (q2 : Nat) (fr2 : Int32) (rhd2 : Nat → Int32) (rif2 : Nat → Int32) (rul2 : Nat → Int32) (rr2 : Nat) (prm2 : Int32), itE (f_X3_rules_24 tx t n hd fi un on may asd kp) (0, 0, rv_3, patv_1, pfrv_2, rhd, rif, rul, 0, 0) j24 = .inr (items, pl2, tk2, q2, fr2, rhd2, rif2, rul2, rr2, prm2) → (tk2 = 14 ∨ j24 + 1 ≤ q2) → (q2 ≤ t) → (rr2 ≤ 10) → (PI pl2 rr2) → ∀  (H : Heap) (locs : List Loc), va_P D vwCl (wM h cA (nI n) hd fi un on may asd tx (nI t) kp ko ka tr (nI q2) fr2 rhd2 rif2 rul2 (nI rr2) prm2 rd bb nw ot ev od) H → va_D A (wM h cA (nI n) hd fi un on may asd tx (nI t) kp ko ka tr (nI q2) fr2 rhd2 rif2 rul2 (nI rr2) prm2 rd bb nw ot ev od) → va_S A s.heap H locs → ∀ ls : Array Slot, lv_has ls 5 [(0, .ref (h 0)), (1, .int items), (2, .int pl2), (3, .int tk2)] → W p l e (headSpec wsX3_rules ({ frames := 2, cells := 0, slots := 0, locals := 42 })).room s m ([.ref (h 0)] : List Value).toArray below meth c H locs 0 0 (MQ below (va_Qi (fun (r : Int32) (u : Nat × (Nat → Int32) × (Nat → Int32) × (Nat → Int32) × Int32 × Int32 × Int32 × (Nat → Int32) × Nat × Int32 × Int32 × (Nat → Int32) × (Nat → Int32) × (Nat → Int32) × Int32 × Int32) => (r, u.1, u.2.1, u.2.2.1, u.2.2.2.1, u.2.2.2.2.1, u.2.2.2.2.2.1, u.2.2.2.2.2.2.1, u.2.2.2.2.2.2.2.1, u.2.2.2.2.2.2.2.2.1) = s_X3_rules tx t n hd fi un on may asd kp rhd rif rul ∧ (u.1 ≤ 10) ∧ (u.2.2.2.2.2.2.2.2.1 ≤ 300)) (rwB D (fun u : Nat × (Nat → Int32) × (Nat → Int32) × (Nat → Int32) × Int32 × Int32 × Int32 × (Nat → Int32) × Nat × Int32 × Int32 × (Nat → Int32) × (Nat → Int32) × (Nat → Int32) × Int32 × Int32 => (wM h cA (nI u.1) u.2.1 u.2.2.1 u.2.2.2.1 u.2.2.2.2.1 u.2.2.2.2.2.1 u.2.2.2.2.2.2.1 tx (nI u.2.2.2.2.2.2.2.2.1) u.2.2.2.2.2.2.2.1 ko ka tr u.2.2.2.2.2.2.2.2.2.1 u.2.2.2.2.2.2.2.2.2.2.1 u.2.2.2.2.2.2.2.2.2.2.2.1 u.2.2.2.2.2.2.2.2.2.2.2.2.1 u.2.2.2.2.2.2.2.2.2.2.2.2.2.1 u.2.2.2.2.2.2.2.2.2.2.2.2.2.2.1 u.2.2.2.2.2.2.2.2.2.2.2.2.2.2.2 rd bb nw ot ev od)) A) A) ([.ref (h 0)] : List Value).toArray s 0 0 A) (F0 m 24 ls []) := by
    intro z_7
    induction z_7 with
    | zero =>
      intro j24 hj24 items pl2 tk2 q2 fr2 rhd2 rif2 rul2 rr2 prm2 he24 hat hq2 hr2 hpi  H locs hP hD hS ls hl
      obtain rfl : 300 = j24 := by omega
      refine lv_iload_n hx hb dX3_rules_24 rfl (lv_at hl 3 rfl) ?_
      refine lv_bipush (v := 14) hx hb dX3_rules_25 (by decide) ?_
      refine lv_icmp_eq (tgt := 75) hx hb dX3_rules_27 (by decide) (fun _ => ?_) (fun hh_9 => absurd (hat.elim id (fun h => absurd h (by omega))) hh_9)
      refine lv_iload_n hx hb dX3_rules_75 rfl (lv_at hl 2 rfl) ?_
      refine lv_if_eq (tgt := 87) hx hb dX3_rules_76 (by decide) (fun c_76_10 => ?_) (fun c_76_10 => ?_)
      · refine lv_aload_n hx hb dX3_rules_87 rfl (lv_at hl 0 rfl) ?_
        refine lv_aload_n hx hb dX3_rules_88 rfl (lv_at hl 0 rfl) ?_
        refine va_get (D := D) (ci := 3) (v := .int (nI rr2)) (C := RX3) (T := TX3) (N := 26) hx hb hts hinX3 hown hK hP 0 rfl rfl 18 (by decide) (hts (.fieldLink RX3 96 "HoldUnlessModel" "readRules" "I") (by decide +kernel)) (fun _ h9 => h9) rfl dX3_rules_89 ?_
        refine va_put (D := D) (ci := 3) (v := .int (nI rr2)) (ty := .int) (C := RX3) (T := TX3) (N := 26) hx hb hts hinX3 tyX3 tyX3_ok nmX3 hown hK hP hD hS 0 rfl rfl 0 (by decide) (hts (.fieldLink RX3 59 "HoldUnlessModel" "rules" "I") (by decide +kernel)) (fun _ h9 => h9) rfl (by decide +kernel) rfl rfl (Nat.le_of_ble_eq_true rfl) dX3_rules_92 (fun H locs hP hD hS => ?_)
        replace hP : va_P D vwCl (wM h cA (nI rr2) hd fi un on may asd tx (nI t) kp ko ka tr (nI q2) fr2 rhd2 rif2 rul2 (nI rr2) prm2 rd bb nw ot ev od) H := hP
        replace hD : va_D A (wM h cA (nI rr2) hd fi un on may asd tx (nI t) kp ko ka tr (nI q2) fr2 rhd2 rif2 rul2 (nI rr2) prm2 rd bb nw ot ev od) := hD
        refine lv_iconst (v := 0) hx hb dX3_rules_95 (by decide) ?_
        refine lv_istore (lv' := [(4, .int 0), (0, .ref (h 0)), (1, .int items), (2, .int pl2), (3, .int tk2)]) hx hb dX3_rules_96 hl (by decide) rfl (fun ls hl => ?_)
        have lp98_11 : ∀ (z_11 j98 : Nat), j98 + z_11 = rr2 → ∀ (hd9 : Nat → Int32) (fi9 : Nat → Int32) (un9 : Nat → Int32), (hd9, fi9, un9) = itr (f_X3_rules_98 rhd2 rif2 rul2) (hd, fi, un) j98 → ∀  (H : Heap) (locs : List Loc), va_P D vwCl (wM h cA (nI rr2) hd9 fi9 un9 on may asd tx (nI t) kp ko ka tr (nI q2) fr2 rhd2 rif2 rul2 (nI rr2) prm2 rd bb nw ot ev od) H → va_D A (wM h cA (nI rr2) hd9 fi9 un9 on may asd tx (nI t) kp ko ka tr (nI q2) fr2 rhd2 rif2 rul2 (nI rr2) prm2 rd bb nw ot ev od) → va_S A s.heap H locs → ∀ ls : Array Slot, lv_has ls 5 [(0, .ref (h 0)), (1, .int items), (4, .int (nI j98))] → W p l e (headSpec wsX3_rules ({ frames := 2, cells := 0, slots := 0, locals := 42 })).room s m ([.ref (h 0)] : List Value).toArray below meth c H locs 0 0 (MQ below (va_Qi (fun (r : Int32) (u : Nat × (Nat → Int32) × (Nat → Int32) × (Nat → Int32) × Int32 × Int32 × Int32 × (Nat → Int32) × Nat × Int32 × Int32 × (Nat → Int32) × (Nat → Int32) × (Nat → Int32) × Int32 × Int32) => (r, u.1, u.2.1, u.2.2.1, u.2.2.2.1, u.2.2.2.2.1, u.2.2.2.2.2.1, u.2.2.2.2.2.2.1, u.2.2.2.2.2.2.2.1, u.2.2.2.2.2.2.2.2.1) = s_X3_rules tx t n hd fi un on may asd kp rhd rif rul ∧ (u.1 ≤ 10) ∧ (u.2.2.2.2.2.2.2.2.1 ≤ 300)) (rwB D (fun u : Nat × (Nat → Int32) × (Nat → Int32) × (Nat → Int32) × Int32 × Int32 × Int32 × (Nat → Int32) × Nat × Int32 × Int32 × (Nat → Int32) × (Nat → Int32) × (Nat → Int32) × Int32 × Int32 => (wM h cA (nI u.1) u.2.1 u.2.2.1 u.2.2.2.1 u.2.2.2.2.1 u.2.2.2.2.2.1 u.2.2.2.2.2.2.1 tx (nI u.2.2.2.2.2.2.2.2.1) u.2.2.2.2.2.2.2.1 ko ka tr u.2.2.2.2.2.2.2.2.2.1 u.2.2.2.2.2.2.2.2.2.2.1 u.2.2.2.2.2.2.2.2.2.2.2.1 u.2.2.2.2.2.2.2.2.2.2.2.2.1 u.2.2.2.2.2.2.2.2.2.2.2.2.2.1 u.2.2.2.2.2.2.2.2.2.2.2.2.2.2.1 u.2.2.2.2.2.2.2.2.2.2.2.2.2.2.2 rd bb nw ot ev od)) A) A) ([.ref (h 0)] : List Value).toArray s 0 0 A) (F0 m 98 ls []) := by
          intro z_11
          induction z_11 with
          | zero =>
            intro j98 hj98 hd9 fi9 un9 he98   H locs hP hD hS ls hl
            obtain rfl : rr2 = j98 := by omega
            refine lv_iload hx hb dX3_rules_98 (lv_at hl 2 rfl) ?_
            refine lv_aload_n hx hb dX3_rules_100 rfl (lv_at hl 0 rfl) ?_
            refine va_get (D := D) (ci := 3) (v := .int (nI rr2)) (C := RX3) (T := TX3) (N := 26) hx hb hts hinX3 hown hK hP 0 rfl rfl 0 (by decide) (hts (.fieldLink RX3 59 "HoldUnlessModel" "rules" "I") (by decide +kernel)) (fun _ h9 => h9) rfl dX3_rules_101 ?_
            refine lv_icmp_ge (tgt := 155) hx hb dX3_rules_104 (by decide) (fun _ => ?_) (fun hh_13 => absurd (nI_le (a := rr2) (b := rr2) (by omega) (by omega)) hh_13)
            refine lv_aload_n hx hb dX3_rules_155 rfl (lv_at hl 0 rfl) ?_
            refine lv_iconst (v := 1) hx hb dX3_rules_156 (by decide) ?_
            refine lv_aload_n hx hb dX3_rules_157 rfl (lv_at hl 0 rfl) ?_
            refine va_get (D := D) (ci := 3) (v := .int (nI rr2)) (C := RX3) (T := TX3) (N := 26) hx hb hts hinX3 hown hK hP 0 rfl rfl 0 (by decide) (hts (.fieldLink RX3 59 "HoldUnlessModel" "rules" "I") (by decide +kernel)) (fun _ h9 => h9) rfl dX3_rules_158 ?_
            refine lv_ishl hx hb dX3_rules_161 ?_
            refine lv_iconst (v := 1) hx hb dX3_rules_162 (by decide) ?_
            refine lv_isub hx hb dX3_rules_163 ?_
            refine va_put (D := D) (ci := 3) (v := .int ((1 <<< ((nI rr2) &&& 31)) - 1)) (ty := .int) (C := RX3) (T := TX3) (N := 26) hx hb hts hinX3 tyX3 tyX3_ok nmX3 hown hK hP hD hS 0 rfl rfl 4 (by decide) (hts (.fieldLink RX3 114 "HoldUnlessModel" "on" "I") (by decide +kernel)) (fun _ h9 => h9) rfl (by decide +kernel) rfl rfl (Nat.le_of_ble_eq_true rfl) dX3_rules_164 (fun H locs hP hD hS => ?_)
            replace hP : va_P D vwCl (wM h cA (nI rr2) hd9 fi9 un9 ((1 <<< ((nI rr2) &&& 31)) - 1) may asd tx (nI t) kp ko ka tr (nI q2) fr2 rhd2 rif2 rul2 (nI rr2) prm2 rd bb nw ot ev od) H := hP
            replace hD : va_D A (wM h cA (nI rr2) hd9 fi9 un9 ((1 <<< ((nI rr2) &&& 31)) - 1) may asd tx (nI t) kp ko ka tr (nI q2) fr2 rhd2 rif2 rul2 (nI rr2) prm2 rd bb nw ot ev od) := hD
            refine lv_aload_n hx hb dX3_rules_167 rfl (lv_at hl 0 rfl) ?_
            refine lv_aload_n hx hb dX3_rules_168 rfl (lv_at hl 0 rfl) ?_
            refine va_get (D := D) (ci := 3) (v := .int prm2) (C := RX3) (T := TX3) (N := 26) hx hb hts hinX3 hown hK hP 0 rfl rfl 19 (by decide) (hts (.fieldLink RX3 99 "HoldUnlessModel" "readMay" "I") (by decide +kernel)) (fun _ h9 => h9) rfl dX3_rules_169 ?_
            refine va_put (D := D) (ci := 3) (v := .int prm2) (ty := .int) (C := RX3) (T := TX3) (N := 26) hx hb hts hinX3 tyX3 tyX3_ok nmX3 hown hK hP hD hS 0 rfl rfl 5 (by decide) (hts (.fieldLink RX3 117 "HoldUnlessModel" "may" "I") (by decide +kernel)) (fun _ h9 => h9) rfl (by decide +kernel) rfl rfl (Nat.le_of_ble_eq_true rfl) dX3_rules_172 (fun H locs hP hD hS => ?_)
            replace hP : va_P D vwCl (wM h cA (nI rr2) hd9 fi9 un9 ((1 <<< ((nI rr2) &&& 31)) - 1) prm2 asd tx (nI t) kp ko ka tr (nI q2) fr2 rhd2 rif2 rul2 (nI rr2) prm2 rd bb nw ot ev od) H := hP
            replace hD : va_D A (wM h cA (nI rr2) hd9 fi9 un9 ((1 <<< ((nI rr2) &&& 31)) - 1) prm2 asd tx (nI t) kp ko ka tr (nI q2) fr2 rhd2 rif2 rul2 (nI rr2) prm2 rd bb nw ot ev od) := hD
            refine lv_aload_n hx hb dX3_rules_175 rfl (lv_at hl 0 rfl) ?_
            refine lv_iconst (v := 0) hx hb dX3_rules_176 (by decide) ?_
            refine va_put (D := D) (ci := 3) (v := .int 0) (ty := .int) (C := RX3) (T := TX3) (N := 26) hx hb hts hinX3 tyX3 tyX3_ok nmX3 hown hK hP hD hS 0 rfl rfl 6 (by decide) (hts (.fieldLink RX3 120 "HoldUnlessModel" "assumed" "I") (by decide +kernel)) (fun _ h9 => h9) rfl (by decide +kernel) rfl rfl (Nat.le_of_ble_eq_true rfl) dX3_rules_177 (fun H locs hP hD hS => ?_)
            replace hP : va_P D vwCl (wM h cA (nI rr2) hd9 fi9 un9 ((1 <<< ((nI rr2) &&& 31)) - 1) prm2 0 tx (nI t) kp ko ka tr (nI q2) fr2 rhd2 rif2 rul2 (nI rr2) prm2 rd bb nw ot ev od) H := hP
            replace hD : va_D A (wM h cA (nI rr2) hd9 fi9 un9 ((1 <<< ((nI rr2) &&& 31)) - 1) prm2 0 tx (nI t) kp ko ka tr (nI q2) fr2 rhd2 rif2 rul2 (nI rr2) prm2 rd bb nw ot ev od) := hD
            refine lv_aload_n hx hb dX3_rules_180 rfl (lv_at hl 0 rfl) ?_
            refine va_get (D := D) (ci := 3) (v := .ref (h 5)) (C := RX3) (T := TX3) (N := 26) hx hb hts hinX3 hown hK hP 0 rfl rfl 9 (by decide) (hts (.fieldLink RX3 22 "HoldUnlessModel" "isKept" "[Z") (by decide +kernel)) (fun _ h9 => h9) rfl dX3_rules_181 ?_
            refine lv_iconst (v := 0) hx hb dX3_rules_184 (by decide) ?_
            refine lv_iconst (v := 0) hx hb dX3_rules_185 (by decide) ?_
            refine va_zast hx hb hK hP hD hS 5 4 rfl rfl ((by unfold vp_in; decide)) dX3_rules_186 (fun H locs hP hD hS => ?_)
            replace hP : va_P D vwCl (wM h cA (nI rr2) hd9 fi9 un9 ((1 <<< ((nI rr2) &&& 31)) - 1) prm2 0 tx (nI t) (upd kp (0 : Int32).toNatClampNeg (vp_nar .boolean 0)) ko ka tr (nI q2) fr2 rhd2 rif2 rul2 (nI rr2) prm2 rd bb nw ot ev od) H := hP
            replace hD : va_D A (wM h cA (nI rr2) hd9 fi9 un9 ((1 <<< ((nI rr2) &&& 31)) - 1) prm2 0 tx (nI t) (upd kp (0 : Int32).toNatClampNeg (vp_nar .boolean 0)) ko ka tr (nI q2) fr2 rhd2 rif2 rul2 (nI rr2) prm2 rd bb nw ot ev od) := hD
            refine lv_aload_n hx hb dX3_rules_187 rfl (lv_at hl 0 rfl) ?_
            refine va_get (D := D) (ci := 3) (v := .ref (h 5)) (C := RX3) (T := TX3) (N := 26) hx hb hts hinX3 hown hK hP 0 rfl rfl 9 (by decide) (hts (.fieldLink RX3 22 "HoldUnlessModel" "isKept" "[Z") (by decide +kernel)) (fun _ h9 => h9) rfl dX3_rules_188 ?_
            refine lv_iconst (v := 1) hx hb dX3_rules_191 (by decide) ?_
            refine lv_iconst (v := 0) hx hb dX3_rules_192 (by decide) ?_
            refine va_zast hx hb hK hP hD hS 5 4 rfl rfl ((by unfold vp_in; decide)) dX3_rules_193 (fun H locs hP hD hS => ?_)
            replace hP : va_P D vwCl (wM h cA (nI rr2) hd9 fi9 un9 ((1 <<< ((nI rr2) &&& 31)) - 1) prm2 0 tx (nI t) (upd (upd kp (0 : Int32).toNatClampNeg (vp_nar .boolean 0)) (1 : Int32).toNatClampNeg (vp_nar .boolean 0)) ko ka tr (nI q2) fr2 rhd2 rif2 rul2 (nI rr2) prm2 rd bb nw ot ev od) H := hP
            replace hD : va_D A (wM h cA (nI rr2) hd9 fi9 un9 ((1 <<< ((nI rr2) &&& 31)) - 1) prm2 0 tx (nI t) (upd (upd kp (0 : Int32).toNatClampNeg (vp_nar .boolean 0)) (1 : Int32).toNatClampNeg (vp_nar .boolean 0)) ko ka tr (nI q2) fr2 rhd2 rif2 rul2 (nI rr2) prm2 rd bb nw ot ev od) := hD
            refine lv_aload_n hx hb dX3_rules_194 rfl (lv_at hl 0 rfl) ?_
            refine lv_iconst (v := 0) hx hb dX3_rules_195 (by decide) ?_
            refine va_put (D := D) (ci := 3) (v := .int 0) (ty := .int) (C := RX3) (T := TX3) (N := 26) hx hb hts hinX3 tyX3 tyX3_ok nmX3 hown hK hP hD hS 0 rfl rfl 8 (by decide) (hts (.fieldLink RX3 69 "HoldUnlessModel" "texted" "I") (by decide +kernel)) (fun _ h9 => h9) rfl (by decide +kernel) rfl rfl (Nat.le_of_ble_eq_true rfl) dX3_rules_196 (fun H locs hP hD hS => ?_)
            replace hP : va_P D vwCl (wM h cA (nI rr2) hd9 fi9 un9 ((1 <<< ((nI rr2) &&& 31)) - 1) prm2 0 tx 0 (upd (upd kp (0 : Int32).toNatClampNeg (vp_nar .boolean 0)) (1 : Int32).toNatClampNeg (vp_nar .boolean 0)) ko ka tr (nI q2) fr2 rhd2 rif2 rul2 (nI rr2) prm2 rd bb nw ot ev od) H := hP
            replace hD : va_D A (wM h cA (nI rr2) hd9 fi9 un9 ((1 <<< ((nI rr2) &&& 31)) - 1) prm2 0 tx 0 (upd (upd kp (0 : Int32).toNatClampNeg (vp_nar .boolean 0)) (1 : Int32).toNatClampNeg (vp_nar .boolean 0)) ko ka tr (nI q2) fr2 rhd2 rif2 rul2 (nI rr2) prm2 rd bb nw ot ev od) := hD
            refine lv_iload_n hx hb dX3_rules_199 rfl (lv_at hl 1 rfl) ?_
            exact rw_iret hx hb hr hS hlocks (rr2, hd9, fi9, un9, ((1 <<< ((nI rr2) &&& 31)) - 1), prm2, 0, (upd (upd kp (0 : Int32).toNatClampNeg (vp_nar .boolean 0)) (1 : Int32).toNatClampNeg (vp_nar .boolean 0)), 0, (nI q2), fr2, rhd2, rif2, rul2, (nI rr2), prm2) ⟨(show s_X3_rules tx t n hd fi un on may asd kp rhd rif rul = (items, rr2, hd9, fi9, un9, ((1 <<< ((nI rr2) &&& 31)) - 1), prm2, 0, (upd (upd kp (0 : Int32).toNatClampNeg (vp_nar .boolean 0)) (1 : Int32).toNatClampNeg (vp_nar .boolean 0)), 0) from by (unfold s_X3_rules; (try dsimp only); (try rw [← hw_4]); (try dsimp only); (try rw [he24]); (try dsimp only [onE]); (try rw [if_pos c_76_10]); (try rw [← he98]); (try dsimp only); first | done | with_reducible rfl)).symm, (by first | assumption | omega | rfl | exact Or.inl rfl | exact Or.inr (by omega) | (dsimp only; omega) | (dsimp only; intro h; omega) | (intro h; rcases h with h | h <;> contradiction)), (by first | assumption | omega | rfl | exact Or.inl rfl | exact Or.inr (by omega) | (dsimp only; omega) | (dsimp only; intro h; omega) | (intro h; rcases h with h | h <;> contradiction))⟩ hP hD dX3_rules_200
          | succ z_11 ih98 =>
            intro j98 hj98 hd9 fi9 un9 he98   H locs hP hD hS ls hl
            refine lv_iload hx hb dX3_rules_98 (lv_at hl 2 rfl) ?_
            refine lv_aload_n hx hb dX3_rules_100 rfl (lv_at hl 0 rfl) ?_
            refine va_get (D := D) (ci := 3) (v := .int (nI rr2)) (C := RX3) (T := TX3) (N := 26) hx hb hts hinX3 hown hK hP 0 rfl rfl 0 (by decide) (hts (.fieldLink RX3 59 "HoldUnlessModel" "rules" "I") (by decide +kernel)) (fun _ h9 => h9) rfl dX3_rules_101 ?_
            refine lv_icmp_ge (tgt := 155) hx hb dX3_rules_104 (by decide) (fun hh_15 => absurd hh_15 (nI_ge (a := j98) (b := rr2) (by omega) (by omega))) (fun _ => ?_)
            refine lv_aload_n hx hb dX3_rules_107 rfl (lv_at hl 0 rfl) ?_
            refine va_get (D := D) (ci := 3) (v := .ref (h 1)) (C := RX3) (T := TX3) (N := 26) hx hb hts hinX3 hown hK hP 0 rfl rfl 1 (by decide) (hts (.fieldLink RX3 7 "HoldUnlessModel" "head" "[I") (by decide +kernel)) (fun _ h9 => h9) rfl dX3_rules_108 ?_
            refine lv_iload hx hb dX3_rules_111 (lv_at hl 2 rfl) ?_
            refine lv_aload_n hx hb dX3_rules_113 rfl (lv_at hl 0 rfl) ?_
            refine va_get (D := D) (ci := 3) (v := .ref (h 8)) (C := RX3) (T := TX3) (N := 26) hx hb hts hinX3 hown hK hP 0 rfl rfl 15 (by decide) (hts (.fieldLink RX3 32 "HoldUnlessModel" "readHead" "[I") (by decide +kernel)) (fun _ h9 => h9) rfl dX3_rules_114 ?_
            refine lv_iload hx hb dX3_rules_117 (lv_at hl 2 rfl) ?_
            refine wa_ild hx hb hK hP 8 7 rfl rfl j98 rfl (by omega) (by decide) dX3_rules_119 ?_
            refine wa_ist hx hb hK hP hD hS 1 0 rfl rfl j98 rfl (by omega) (by decide) dX3_rules_120 (fun H locs hP hD hS => ?_)
            replace hP : va_P D vwCl (wM h cA (nI rr2) (upd hd9 j98 (rhd2 j98)) fi9 un9 on may asd tx (nI t) kp ko ka tr (nI q2) fr2 rhd2 rif2 rul2 (nI rr2) prm2 rd bb nw ot ev od) H := hP
            replace hD : va_D A (wM h cA (nI rr2) (upd hd9 j98 (rhd2 j98)) fi9 un9 on may asd tx (nI t) kp ko ka tr (nI q2) fr2 rhd2 rif2 rul2 (nI rr2) prm2 rd bb nw ot ev od) := hD
            refine lv_aload_n hx hb dX3_rules_121 rfl (lv_at hl 0 rfl) ?_
            refine va_get (D := D) (ci := 3) (v := .ref (h 2)) (C := RX3) (T := TX3) (N := 26) hx hb hts hinX3 hown hK hP 0 rfl rfl 2 (by decide) (hts (.fieldLink RX3 13 "HoldUnlessModel" "ifs" "[I") (by decide +kernel)) (fun _ h9 => h9) rfl dX3_rules_122 ?_
            refine lv_iload hx hb dX3_rules_125 (lv_at hl 2 rfl) ?_
            refine lv_aload_n hx hb dX3_rules_127 rfl (lv_at hl 0 rfl) ?_
            refine va_get (D := D) (ci := 3) (v := .ref (h 9)) (C := RX3) (T := TX3) (N := 26) hx hb hts hinX3 hown hK hP 0 rfl rfl 16 (by decide) (hts (.fieldLink RX3 35 "HoldUnlessModel" "readIfs" "[I") (by decide +kernel)) (fun _ h9 => h9) rfl dX3_rules_128 ?_
            refine lv_iload hx hb dX3_rules_131 (lv_at hl 2 rfl) ?_
            refine wa_ild hx hb hK hP 9 8 rfl rfl j98 rfl (by omega) (by decide) dX3_rules_133 ?_
            refine wa_ist hx hb hK hP hD hS 2 1 rfl rfl j98 rfl (by omega) (by decide) dX3_rules_134 (fun H locs hP hD hS => ?_)
            replace hP : va_P D vwCl (wM h cA (nI rr2) (upd hd9 j98 (rhd2 j98)) (upd fi9 j98 (rif2 j98)) un9 on may asd tx (nI t) kp ko ka tr (nI q2) fr2 rhd2 rif2 rul2 (nI rr2) prm2 rd bb nw ot ev od) H := hP
            replace hD : va_D A (wM h cA (nI rr2) (upd hd9 j98 (rhd2 j98)) (upd fi9 j98 (rif2 j98)) un9 on may asd tx (nI t) kp ko ka tr (nI q2) fr2 rhd2 rif2 rul2 (nI rr2) prm2 rd bb nw ot ev od) := hD
            refine lv_aload_n hx hb dX3_rules_135 rfl (lv_at hl 0 rfl) ?_
            refine va_get (D := D) (ci := 3) (v := .ref (h 3)) (C := RX3) (T := TX3) (N := 26) hx hb hts hinX3 hown hK hP 0 rfl rfl 3 (by decide) (hts (.fieldLink RX3 16 "HoldUnlessModel" "unless" "[I") (by decide +kernel)) (fun _ h9 => h9) rfl dX3_rules_136 ?_
            refine lv_iload hx hb dX3_rules_139 (lv_at hl 2 rfl) ?_
            refine lv_aload_n hx hb dX3_rules_141 rfl (lv_at hl 0 rfl) ?_
            refine va_get (D := D) (ci := 3) (v := .ref (h 10)) (C := RX3) (T := TX3) (N := 26) hx hb hts hinX3 hown hK hP 0 rfl rfl 17 (by decide) (hts (.fieldLink RX3 38 "HoldUnlessModel" "readUnless" "[I") (by decide +kernel)) (fun _ h9 => h9) rfl dX3_rules_142 ?_
            refine lv_iload hx hb dX3_rules_145 (lv_at hl 2 rfl) ?_
            refine wa_ild hx hb hK hP 10 9 rfl rfl j98 rfl (by omega) (by decide) dX3_rules_147 ?_
            refine wa_ist hx hb hK hP hD hS 3 2 rfl rfl j98 rfl (by omega) (by decide) dX3_rules_148 (fun H locs hP hD hS => ?_)
            replace hP : va_P D vwCl (wM h cA (nI rr2) (upd hd9 j98 (rhd2 j98)) (upd fi9 j98 (rif2 j98)) (upd un9 j98 (rul2 j98)) on may asd tx (nI t) kp ko ka tr (nI q2) fr2 rhd2 rif2 rul2 (nI rr2) prm2 rd bb nw ot ev od) H := hP
            replace hD : va_D A (wM h cA (nI rr2) (upd hd9 j98 (rhd2 j98)) (upd fi9 j98 (rif2 j98)) (upd un9 j98 (rul2 j98)) on may asd tx (nI t) kp ko ka tr (nI q2) fr2 rhd2 rif2 rul2 (nI rr2) prm2 rd bb nw ot ev od) := hD
            refine lv_iinc (v := nI (j98 + 1)) (lv' := [(4, .int (nI (j98 + 1))), (0, .ref (h 0)), (1, .int items)]) hx hb dX3_rules_149 hl (k := 2) rfl (inc_nI j98) (by decide) rfl (fun ls hl => ?_)
            refine lv_goto (tgt := 98) hx hb dX3_rules_152 (by decide) ?_
            exact ih98 (j98 + 1) (by omega) (upd hd9 j98 (rhd2 j98)) (upd fi9 j98 (rif2 j98)) (upd un9 j98 (rul2 j98)) (itr_step he98 (by (unfold f_X3_rules_98; (try dsimp only); first | done | with_reducible rfl)))   _ _ hP hD hS _ (lv_sub hl [1, 2, 0] rfl)
        exact lp98_11 rr2 0 (by omega) hd fi un (itr_zero _ _).symm   _ _ hP hD hS _ (lv_sub hl [1, 2, 0] rfl)
      · refine lv_bipush (v := (-10)) hx hb dX3_rules_79 (by decide) ?_
        refine lv_aload_n hx hb dX3_rules_81 rfl (lv_at hl 0 rfl) ?_
        refine va_get (D := D) (ci := 3) (v := .int (nI t)) (C := RX3) (T := TX3) (N := 26) hx hb hts hinX3 hown hK hP 0 rfl rfl 8 (by decide) (hts (.fieldLink RX3 69 "HoldUnlessModel" "texted" "I") (by decide +kernel)) (fun _ h9 => h9) rfl dX3_rules_82 ?_
        refine lv_isub hx hb dX3_rules_85 ?_
        exact rw_iret hx hb hr hS hlocks (n, hd, fi, un, on, may, asd, kp, t, (nI q2), fr2, rhd2, rif2, rul2, (nI rr2), prm2) ⟨(show s_X3_rules tx t n hd fi un on may asd kp rhd rif rul = (((-10) - (nI t)), n, hd, fi, un, on, may, asd, kp, t) from by (unfold s_X3_rules; (try dsimp only); (try rw [← hw_4]); (try dsimp only); (try rw [he24]); (try dsimp only [onE]); (try rw [if_neg c_76_10]); first | done | with_reducible rfl)).symm, (by first | assumption | omega | rfl | exact Or.inl rfl | exact Or.inr (by omega) | (dsimp only; omega) | (dsimp only; intro h; omega) | (intro h; rcases h with h | h <;> contradiction)), (by first | assumption | omega | rfl | exact Or.inl rfl | exact Or.inr (by omega) | (dsimp only; omega) | (dsimp only; intro h; omega) | (intro h; rcases h with h | h <;> contradiction))⟩ hP hD dX3_rules_86
    | succ z_7 ih24 =>
      intro j24 hj24 items pl2 tk2 q2 fr2 rhd2 rif2 rul2 rr2 prm2 he24 hat hq2 hr2 hpi  H locs hP hD hS ls hl
      refine lv_iload_n hx hb dX3_rules_24 rfl (lv_at hl 3 rfl) ?_
      refine lv_bipush (v := 14) hx hb dX3_rules_25 (by decide) ?_
      refine lv_icmp_eq (tgt := 75) hx hb dX3_rules_27 (by decide) (fun c_27_16 => ?_) (fun c_27_16 => ?_)
      · refine lv_iload_n hx hb dX3_rules_75 rfl (lv_at hl 2 rfl) ?_
        refine lv_if_eq (tgt := 87) hx hb dX3_rules_76 (by decide) (fun c_76_17 => ?_) (fun c_76_17 => ?_)
        · refine lv_aload_n hx hb dX3_rules_87 rfl (lv_at hl 0 rfl) ?_
          refine lv_aload_n hx hb dX3_rules_88 rfl (lv_at hl 0 rfl) ?_
          refine va_get (D := D) (ci := 3) (v := .int (nI rr2)) (C := RX3) (T := TX3) (N := 26) hx hb hts hinX3 hown hK hP 0 rfl rfl 18 (by decide) (hts (.fieldLink RX3 96 "HoldUnlessModel" "readRules" "I") (by decide +kernel)) (fun _ h9 => h9) rfl dX3_rules_89 ?_
          refine va_put (D := D) (ci := 3) (v := .int (nI rr2)) (ty := .int) (C := RX3) (T := TX3) (N := 26) hx hb hts hinX3 tyX3 tyX3_ok nmX3 hown hK hP hD hS 0 rfl rfl 0 (by decide) (hts (.fieldLink RX3 59 "HoldUnlessModel" "rules" "I") (by decide +kernel)) (fun _ h9 => h9) rfl (by decide +kernel) rfl rfl (Nat.le_of_ble_eq_true rfl) dX3_rules_92 (fun H locs hP hD hS => ?_)
          replace hP : va_P D vwCl (wM h cA (nI rr2) hd fi un on may asd tx (nI t) kp ko ka tr (nI q2) fr2 rhd2 rif2 rul2 (nI rr2) prm2 rd bb nw ot ev od) H := hP
          replace hD : va_D A (wM h cA (nI rr2) hd fi un on may asd tx (nI t) kp ko ka tr (nI q2) fr2 rhd2 rif2 rul2 (nI rr2) prm2 rd bb nw ot ev od) := hD
          refine lv_iconst (v := 0) hx hb dX3_rules_95 (by decide) ?_
          refine lv_istore (lv' := [(4, .int 0), (0, .ref (h 0)), (1, .int items), (2, .int pl2), (3, .int tk2)]) hx hb dX3_rules_96 hl (by decide) rfl (fun ls hl => ?_)
          have lp98_18 : ∀ (z_18 j98 : Nat), j98 + z_18 = rr2 → ∀ (hd9 : Nat → Int32) (fi9 : Nat → Int32) (un9 : Nat → Int32), (hd9, fi9, un9) = itr (f_X3_rules_98b rhd2 rif2 rul2) (hd, fi, un) j98 → ∀  (H : Heap) (locs : List Loc), va_P D vwCl (wM h cA (nI rr2) hd9 fi9 un9 on may asd tx (nI t) kp ko ka tr (nI q2) fr2 rhd2 rif2 rul2 (nI rr2) prm2 rd bb nw ot ev od) H → va_D A (wM h cA (nI rr2) hd9 fi9 un9 on may asd tx (nI t) kp ko ka tr (nI q2) fr2 rhd2 rif2 rul2 (nI rr2) prm2 rd bb nw ot ev od) → va_S A s.heap H locs → ∀ ls : Array Slot, lv_has ls 5 [(0, .ref (h 0)), (1, .int items), (4, .int (nI j98))] → W p l e (headSpec wsX3_rules ({ frames := 2, cells := 0, slots := 0, locals := 42 })).room s m ([.ref (h 0)] : List Value).toArray below meth c H locs 0 0 (MQ below (va_Qi (fun (r : Int32) (u : Nat × (Nat → Int32) × (Nat → Int32) × (Nat → Int32) × Int32 × Int32 × Int32 × (Nat → Int32) × Nat × Int32 × Int32 × (Nat → Int32) × (Nat → Int32) × (Nat → Int32) × Int32 × Int32) => (r, u.1, u.2.1, u.2.2.1, u.2.2.2.1, u.2.2.2.2.1, u.2.2.2.2.2.1, u.2.2.2.2.2.2.1, u.2.2.2.2.2.2.2.1, u.2.2.2.2.2.2.2.2.1) = s_X3_rules tx t n hd fi un on may asd kp rhd rif rul ∧ (u.1 ≤ 10) ∧ (u.2.2.2.2.2.2.2.2.1 ≤ 300)) (rwB D (fun u : Nat × (Nat → Int32) × (Nat → Int32) × (Nat → Int32) × Int32 × Int32 × Int32 × (Nat → Int32) × Nat × Int32 × Int32 × (Nat → Int32) × (Nat → Int32) × (Nat → Int32) × Int32 × Int32 => (wM h cA (nI u.1) u.2.1 u.2.2.1 u.2.2.2.1 u.2.2.2.2.1 u.2.2.2.2.2.1 u.2.2.2.2.2.2.1 tx (nI u.2.2.2.2.2.2.2.2.1) u.2.2.2.2.2.2.2.1 ko ka tr u.2.2.2.2.2.2.2.2.2.1 u.2.2.2.2.2.2.2.2.2.2.1 u.2.2.2.2.2.2.2.2.2.2.2.1 u.2.2.2.2.2.2.2.2.2.2.2.2.1 u.2.2.2.2.2.2.2.2.2.2.2.2.2.1 u.2.2.2.2.2.2.2.2.2.2.2.2.2.2.1 u.2.2.2.2.2.2.2.2.2.2.2.2.2.2.2 rd bb nw ot ev od)) A) A) ([.ref (h 0)] : List Value).toArray s 0 0 A) (F0 m 98 ls []) := by
            intro z_18
            induction z_18 with
            | zero =>
              intro j98 hj98 hd9 fi9 un9 he98   H locs hP hD hS ls hl
              obtain rfl : rr2 = j98 := by omega
              refine lv_iload hx hb dX3_rules_98 (lv_at hl 2 rfl) ?_
              refine lv_aload_n hx hb dX3_rules_100 rfl (lv_at hl 0 rfl) ?_
              refine va_get (D := D) (ci := 3) (v := .int (nI rr2)) (C := RX3) (T := TX3) (N := 26) hx hb hts hinX3 hown hK hP 0 rfl rfl 0 (by decide) (hts (.fieldLink RX3 59 "HoldUnlessModel" "rules" "I") (by decide +kernel)) (fun _ h9 => h9) rfl dX3_rules_101 ?_
              refine lv_icmp_ge (tgt := 155) hx hb dX3_rules_104 (by decide) (fun _ => ?_) (fun hh_20 => absurd (nI_le (a := rr2) (b := rr2) (by omega) (by omega)) hh_20)
              refine lv_aload_n hx hb dX3_rules_155 rfl (lv_at hl 0 rfl) ?_
              refine lv_iconst (v := 1) hx hb dX3_rules_156 (by decide) ?_
              refine lv_aload_n hx hb dX3_rules_157 rfl (lv_at hl 0 rfl) ?_
              refine va_get (D := D) (ci := 3) (v := .int (nI rr2)) (C := RX3) (T := TX3) (N := 26) hx hb hts hinX3 hown hK hP 0 rfl rfl 0 (by decide) (hts (.fieldLink RX3 59 "HoldUnlessModel" "rules" "I") (by decide +kernel)) (fun _ h9 => h9) rfl dX3_rules_158 ?_
              refine lv_ishl hx hb dX3_rules_161 ?_
              refine lv_iconst (v := 1) hx hb dX3_rules_162 (by decide) ?_
              refine lv_isub hx hb dX3_rules_163 ?_
              refine va_put (D := D) (ci := 3) (v := .int ((1 <<< ((nI rr2) &&& 31)) - 1)) (ty := .int) (C := RX3) (T := TX3) (N := 26) hx hb hts hinX3 tyX3 tyX3_ok nmX3 hown hK hP hD hS 0 rfl rfl 4 (by decide) (hts (.fieldLink RX3 114 "HoldUnlessModel" "on" "I") (by decide +kernel)) (fun _ h9 => h9) rfl (by decide +kernel) rfl rfl (Nat.le_of_ble_eq_true rfl) dX3_rules_164 (fun H locs hP hD hS => ?_)
              replace hP : va_P D vwCl (wM h cA (nI rr2) hd9 fi9 un9 ((1 <<< ((nI rr2) &&& 31)) - 1) may asd tx (nI t) kp ko ka tr (nI q2) fr2 rhd2 rif2 rul2 (nI rr2) prm2 rd bb nw ot ev od) H := hP
              replace hD : va_D A (wM h cA (nI rr2) hd9 fi9 un9 ((1 <<< ((nI rr2) &&& 31)) - 1) may asd tx (nI t) kp ko ka tr (nI q2) fr2 rhd2 rif2 rul2 (nI rr2) prm2 rd bb nw ot ev od) := hD
              refine lv_aload_n hx hb dX3_rules_167 rfl (lv_at hl 0 rfl) ?_
              refine lv_aload_n hx hb dX3_rules_168 rfl (lv_at hl 0 rfl) ?_
              refine va_get (D := D) (ci := 3) (v := .int prm2) (C := RX3) (T := TX3) (N := 26) hx hb hts hinX3 hown hK hP 0 rfl rfl 19 (by decide) (hts (.fieldLink RX3 99 "HoldUnlessModel" "readMay" "I") (by decide +kernel)) (fun _ h9 => h9) rfl dX3_rules_169 ?_
              refine va_put (D := D) (ci := 3) (v := .int prm2) (ty := .int) (C := RX3) (T := TX3) (N := 26) hx hb hts hinX3 tyX3 tyX3_ok nmX3 hown hK hP hD hS 0 rfl rfl 5 (by decide) (hts (.fieldLink RX3 117 "HoldUnlessModel" "may" "I") (by decide +kernel)) (fun _ h9 => h9) rfl (by decide +kernel) rfl rfl (Nat.le_of_ble_eq_true rfl) dX3_rules_172 (fun H locs hP hD hS => ?_)
              replace hP : va_P D vwCl (wM h cA (nI rr2) hd9 fi9 un9 ((1 <<< ((nI rr2) &&& 31)) - 1) prm2 asd tx (nI t) kp ko ka tr (nI q2) fr2 rhd2 rif2 rul2 (nI rr2) prm2 rd bb nw ot ev od) H := hP
              replace hD : va_D A (wM h cA (nI rr2) hd9 fi9 un9 ((1 <<< ((nI rr2) &&& 31)) - 1) prm2 asd tx (nI t) kp ko ka tr (nI q2) fr2 rhd2 rif2 rul2 (nI rr2) prm2 rd bb nw ot ev od) := hD
              refine lv_aload_n hx hb dX3_rules_175 rfl (lv_at hl 0 rfl) ?_
              refine lv_iconst (v := 0) hx hb dX3_rules_176 (by decide) ?_
              refine va_put (D := D) (ci := 3) (v := .int 0) (ty := .int) (C := RX3) (T := TX3) (N := 26) hx hb hts hinX3 tyX3 tyX3_ok nmX3 hown hK hP hD hS 0 rfl rfl 6 (by decide) (hts (.fieldLink RX3 120 "HoldUnlessModel" "assumed" "I") (by decide +kernel)) (fun _ h9 => h9) rfl (by decide +kernel) rfl rfl (Nat.le_of_ble_eq_true rfl) dX3_rules_177 (fun H locs hP hD hS => ?_)
              replace hP : va_P D vwCl (wM h cA (nI rr2) hd9 fi9 un9 ((1 <<< ((nI rr2) &&& 31)) - 1) prm2 0 tx (nI t) kp ko ka tr (nI q2) fr2 rhd2 rif2 rul2 (nI rr2) prm2 rd bb nw ot ev od) H := hP
              replace hD : va_D A (wM h cA (nI rr2) hd9 fi9 un9 ((1 <<< ((nI rr2) &&& 31)) - 1) prm2 0 tx (nI t) kp ko ka tr (nI q2) fr2 rhd2 rif2 rul2 (nI rr2) prm2 rd bb nw ot ev od) := hD
              refine lv_aload_n hx hb dX3_rules_180 rfl (lv_at hl 0 rfl) ?_
              refine va_get (D := D) (ci := 3) (v := .ref (h 5)) (C := RX3) (T := TX3) (N := 26) hx hb hts hinX3 hown hK hP 0 rfl rfl 9 (by decide) (hts (.fieldLink RX3 22 "HoldUnlessModel" "isKept" "[Z") (by decide +kernel)) (fun _ h9 => h9) rfl dX3_rules_181 ?_
              refine lv_iconst (v := 0) hx hb dX3_rules_184 (by decide) ?_
              refine lv_iconst (v := 0) hx hb dX3_rules_185 (by decide) ?_
              refine va_zast hx hb hK hP hD hS 5 4 rfl rfl ((by unfold vp_in; decide)) dX3_rules_186 (fun H locs hP hD hS => ?_)
              replace hP : va_P D vwCl (wM h cA (nI rr2) hd9 fi9 un9 ((1 <<< ((nI rr2) &&& 31)) - 1) prm2 0 tx (nI t) (upd kp (0 : Int32).toNatClampNeg (vp_nar .boolean 0)) ko ka tr (nI q2) fr2 rhd2 rif2 rul2 (nI rr2) prm2 rd bb nw ot ev od) H := hP
              replace hD : va_D A (wM h cA (nI rr2) hd9 fi9 un9 ((1 <<< ((nI rr2) &&& 31)) - 1) prm2 0 tx (nI t) (upd kp (0 : Int32).toNatClampNeg (vp_nar .boolean 0)) ko ka tr (nI q2) fr2 rhd2 rif2 rul2 (nI rr2) prm2 rd bb nw ot ev od) := hD
              refine lv_aload_n hx hb dX3_rules_187 rfl (lv_at hl 0 rfl) ?_
              refine va_get (D := D) (ci := 3) (v := .ref (h 5)) (C := RX3) (T := TX3) (N := 26) hx hb hts hinX3 hown hK hP 0 rfl rfl 9 (by decide) (hts (.fieldLink RX3 22 "HoldUnlessModel" "isKept" "[Z") (by decide +kernel)) (fun _ h9 => h9) rfl dX3_rules_188 ?_
              refine lv_iconst (v := 1) hx hb dX3_rules_191 (by decide) ?_
              refine lv_iconst (v := 0) hx hb dX3_rules_192 (by decide) ?_
              refine va_zast hx hb hK hP hD hS 5 4 rfl rfl ((by unfold vp_in; decide)) dX3_rules_193 (fun H locs hP hD hS => ?_)
              replace hP : va_P D vwCl (wM h cA (nI rr2) hd9 fi9 un9 ((1 <<< ((nI rr2) &&& 31)) - 1) prm2 0 tx (nI t) (upd (upd kp (0 : Int32).toNatClampNeg (vp_nar .boolean 0)) (1 : Int32).toNatClampNeg (vp_nar .boolean 0)) ko ka tr (nI q2) fr2 rhd2 rif2 rul2 (nI rr2) prm2 rd bb nw ot ev od) H := hP
              replace hD : va_D A (wM h cA (nI rr2) hd9 fi9 un9 ((1 <<< ((nI rr2) &&& 31)) - 1) prm2 0 tx (nI t) (upd (upd kp (0 : Int32).toNatClampNeg (vp_nar .boolean 0)) (1 : Int32).toNatClampNeg (vp_nar .boolean 0)) ko ka tr (nI q2) fr2 rhd2 rif2 rul2 (nI rr2) prm2 rd bb nw ot ev od) := hD
              refine lv_aload_n hx hb dX3_rules_194 rfl (lv_at hl 0 rfl) ?_
              refine lv_iconst (v := 0) hx hb dX3_rules_195 (by decide) ?_
              refine va_put (D := D) (ci := 3) (v := .int 0) (ty := .int) (C := RX3) (T := TX3) (N := 26) hx hb hts hinX3 tyX3 tyX3_ok nmX3 hown hK hP hD hS 0 rfl rfl 8 (by decide) (hts (.fieldLink RX3 69 "HoldUnlessModel" "texted" "I") (by decide +kernel)) (fun _ h9 => h9) rfl (by decide +kernel) rfl rfl (Nat.le_of_ble_eq_true rfl) dX3_rules_196 (fun H locs hP hD hS => ?_)
              replace hP : va_P D vwCl (wM h cA (nI rr2) hd9 fi9 un9 ((1 <<< ((nI rr2) &&& 31)) - 1) prm2 0 tx 0 (upd (upd kp (0 : Int32).toNatClampNeg (vp_nar .boolean 0)) (1 : Int32).toNatClampNeg (vp_nar .boolean 0)) ko ka tr (nI q2) fr2 rhd2 rif2 rul2 (nI rr2) prm2 rd bb nw ot ev od) H := hP
              replace hD : va_D A (wM h cA (nI rr2) hd9 fi9 un9 ((1 <<< ((nI rr2) &&& 31)) - 1) prm2 0 tx 0 (upd (upd kp (0 : Int32).toNatClampNeg (vp_nar .boolean 0)) (1 : Int32).toNatClampNeg (vp_nar .boolean 0)) ko ka tr (nI q2) fr2 rhd2 rif2 rul2 (nI rr2) prm2 rd bb nw ot ev od) := hD
              refine lv_iload_n hx hb dX3_rules_199 rfl (lv_at hl 1 rfl) ?_
              have hs_21 : itE (f_X3_rules_24 tx t n hd fi un on may asd kp) (0, 0, rv_3, patv_1, pfrv_2, rhd, rif, rul, 0, 0) (j24 + 1) = (.inl (items, rr2, hd9, fi9, un9, ((1 <<< ((nI rr2) &&& 31)) - 1), prm2, 0, (upd (upd kp (0 : Int32).toNatClampNeg (vp_nar .boolean 0)) (1 : Int32).toNatClampNeg (vp_nar .boolean 0)), 0)) := itE_succ he24 (by (unfold f_X3_rules_24; (try dsimp only); (try rw [if_pos c_27_16]); (try rw [if_pos c_76_17]); (try rw [← he98]); (try dsimp only); first | done | with_reducible rfl))
              have hn_22 := itE_stop hs_21 300 (by omega)
              exact rw_iret hx hb hr hS hlocks (rr2, hd9, fi9, un9, ((1 <<< ((nI rr2) &&& 31)) - 1), prm2, 0, (upd (upd kp (0 : Int32).toNatClampNeg (vp_nar .boolean 0)) (1 : Int32).toNatClampNeg (vp_nar .boolean 0)), 0, (nI q2), fr2, rhd2, rif2, rul2, (nI rr2), prm2) ⟨(show s_X3_rules tx t n hd fi un on may asd kp rhd rif rul = (items, rr2, hd9, fi9, un9, ((1 <<< ((nI rr2) &&& 31)) - 1), prm2, 0, (upd (upd kp (0 : Int32).toNatClampNeg (vp_nar .boolean 0)) (1 : Int32).toNatClampNeg (vp_nar .boolean 0)), 0) from by (unfold s_X3_rules; (try dsimp only); (try rw [← hw_4]); (try dsimp only); (try rw [hn_22]); (try dsimp only [onE]); first | done | with_reducible rfl)).symm, (by first | assumption | omega | rfl | exact Or.inl rfl | exact Or.inr (by omega) | (dsimp only; omega) | (dsimp only; intro h; omega) | (intro h; rcases h with h | h <;> contradiction)), (by first | assumption | omega | rfl | exact Or.inl rfl | exact Or.inr (by omega) | (dsimp only; omega) | (dsimp only; intro h; omega) | (intro h; rcases h with h | h <;> contradiction))⟩ hP hD dX3_rules_200
            | succ z_18 ih98 =>
              intro j98 hj98 hd9 fi9 un9 he98   H locs hP hD hS ls hl
              refine lv_iload hx hb dX3_rules_98 (lv_at hl 2 rfl) ?_
              refine lv_aload_n hx hb dX3_rules_100 rfl (lv_at hl 0 rfl) ?_
              refine va_get (D := D) (ci := 3) (v := .int (nI rr2)) (C := RX3) (T := TX3) (N := 26) hx hb hts hinX3 hown hK hP 0 rfl rfl 0 (by decide) (hts (.fieldLink RX3 59 "HoldUnlessModel" "rules" "I") (by decide +kernel)) (fun _ h9 => h9) rfl dX3_rules_101 ?_
              refine lv_icmp_ge (tgt := 155) hx hb dX3_rules_104 (by decide) (fun hh_24 => absurd hh_24 (nI_ge (a := j98) (b := rr2) (by omega) (by omega))) (fun _ => ?_)
              refine lv_aload_n hx hb dX3_rules_107 rfl (lv_at hl 0 rfl) ?_
              refine va_get (D := D) (ci := 3) (v := .ref (h 1)) (C := RX3) (T := TX3) (N := 26) hx hb hts hinX3 hown hK hP 0 rfl rfl 1 (by decide) (hts (.fieldLink RX3 7 "HoldUnlessModel" "head" "[I") (by decide +kernel)) (fun _ h9 => h9) rfl dX3_rules_108 ?_
              refine lv_iload hx hb dX3_rules_111 (lv_at hl 2 rfl) ?_
              refine lv_aload_n hx hb dX3_rules_113 rfl (lv_at hl 0 rfl) ?_
              refine va_get (D := D) (ci := 3) (v := .ref (h 8)) (C := RX3) (T := TX3) (N := 26) hx hb hts hinX3 hown hK hP 0 rfl rfl 15 (by decide) (hts (.fieldLink RX3 32 "HoldUnlessModel" "readHead" "[I") (by decide +kernel)) (fun _ h9 => h9) rfl dX3_rules_114 ?_
              refine lv_iload hx hb dX3_rules_117 (lv_at hl 2 rfl) ?_
              refine wa_ild hx hb hK hP 8 7 rfl rfl j98 rfl (by omega) (by decide) dX3_rules_119 ?_
              refine wa_ist hx hb hK hP hD hS 1 0 rfl rfl j98 rfl (by omega) (by decide) dX3_rules_120 (fun H locs hP hD hS => ?_)
              replace hP : va_P D vwCl (wM h cA (nI rr2) (upd hd9 j98 (rhd2 j98)) fi9 un9 on may asd tx (nI t) kp ko ka tr (nI q2) fr2 rhd2 rif2 rul2 (nI rr2) prm2 rd bb nw ot ev od) H := hP
              replace hD : va_D A (wM h cA (nI rr2) (upd hd9 j98 (rhd2 j98)) fi9 un9 on may asd tx (nI t) kp ko ka tr (nI q2) fr2 rhd2 rif2 rul2 (nI rr2) prm2 rd bb nw ot ev od) := hD
              refine lv_aload_n hx hb dX3_rules_121 rfl (lv_at hl 0 rfl) ?_
              refine va_get (D := D) (ci := 3) (v := .ref (h 2)) (C := RX3) (T := TX3) (N := 26) hx hb hts hinX3 hown hK hP 0 rfl rfl 2 (by decide) (hts (.fieldLink RX3 13 "HoldUnlessModel" "ifs" "[I") (by decide +kernel)) (fun _ h9 => h9) rfl dX3_rules_122 ?_
              refine lv_iload hx hb dX3_rules_125 (lv_at hl 2 rfl) ?_
              refine lv_aload_n hx hb dX3_rules_127 rfl (lv_at hl 0 rfl) ?_
              refine va_get (D := D) (ci := 3) (v := .ref (h 9)) (C := RX3) (T := TX3) (N := 26) hx hb hts hinX3 hown hK hP 0 rfl rfl 16 (by decide) (hts (.fieldLink RX3 35 "HoldUnlessModel" "readIfs" "[I") (by decide +kernel)) (fun _ h9 => h9) rfl dX3_rules_128 ?_
              refine lv_iload hx hb dX3_rules_131 (lv_at hl 2 rfl) ?_
              refine wa_ild hx hb hK hP 9 8 rfl rfl j98 rfl (by omega) (by decide) dX3_rules_133 ?_
              refine wa_ist hx hb hK hP hD hS 2 1 rfl rfl j98 rfl (by omega) (by decide) dX3_rules_134 (fun H locs hP hD hS => ?_)
              replace hP : va_P D vwCl (wM h cA (nI rr2) (upd hd9 j98 (rhd2 j98)) (upd fi9 j98 (rif2 j98)) un9 on may asd tx (nI t) kp ko ka tr (nI q2) fr2 rhd2 rif2 rul2 (nI rr2) prm2 rd bb nw ot ev od) H := hP
              replace hD : va_D A (wM h cA (nI rr2) (upd hd9 j98 (rhd2 j98)) (upd fi9 j98 (rif2 j98)) un9 on may asd tx (nI t) kp ko ka tr (nI q2) fr2 rhd2 rif2 rul2 (nI rr2) prm2 rd bb nw ot ev od) := hD
              refine lv_aload_n hx hb dX3_rules_135 rfl (lv_at hl 0 rfl) ?_
              refine va_get (D := D) (ci := 3) (v := .ref (h 3)) (C := RX3) (T := TX3) (N := 26) hx hb hts hinX3 hown hK hP 0 rfl rfl 3 (by decide) (hts (.fieldLink RX3 16 "HoldUnlessModel" "unless" "[I") (by decide +kernel)) (fun _ h9 => h9) rfl dX3_rules_136 ?_
              refine lv_iload hx hb dX3_rules_139 (lv_at hl 2 rfl) ?_
              refine lv_aload_n hx hb dX3_rules_141 rfl (lv_at hl 0 rfl) ?_
              refine va_get (D := D) (ci := 3) (v := .ref (h 10)) (C := RX3) (T := TX3) (N := 26) hx hb hts hinX3 hown hK hP 0 rfl rfl 17 (by decide) (hts (.fieldLink RX3 38 "HoldUnlessModel" "readUnless" "[I") (by decide +kernel)) (fun _ h9 => h9) rfl dX3_rules_142 ?_
              refine lv_iload hx hb dX3_rules_145 (lv_at hl 2 rfl) ?_
              refine wa_ild hx hb hK hP 10 9 rfl rfl j98 rfl (by omega) (by decide) dX3_rules_147 ?_
              refine wa_ist hx hb hK hP hD hS 3 2 rfl rfl j98 rfl (by omega) (by decide) dX3_rules_148 (fun H locs hP hD hS => ?_)
              replace hP : va_P D vwCl (wM h cA (nI rr2) (upd hd9 j98 (rhd2 j98)) (upd fi9 j98 (rif2 j98)) (upd un9 j98 (rul2 j98)) on may asd tx (nI t) kp ko ka tr (nI q2) fr2 rhd2 rif2 rul2 (nI rr2) prm2 rd bb nw ot ev od) H := hP
              replace hD : va_D A (wM h cA (nI rr2) (upd hd9 j98 (rhd2 j98)) (upd fi9 j98 (rif2 j98)) (upd un9 j98 (rul2 j98)) on may asd tx (nI t) kp ko ka tr (nI q2) fr2 rhd2 rif2 rul2 (nI rr2) prm2 rd bb nw ot ev od) := hD
              refine lv_iinc (v := nI (j98 + 1)) (lv' := [(4, .int (nI (j98 + 1))), (0, .ref (h 0)), (1, .int items)]) hx hb dX3_rules_149 hl (k := 2) rfl (inc_nI j98) (by decide) rfl (fun ls hl => ?_)
              refine lv_goto (tgt := 98) hx hb dX3_rules_152 (by decide) ?_
              exact ih98 (j98 + 1) (by omega) (upd hd9 j98 (rhd2 j98)) (upd fi9 j98 (rif2 j98)) (upd un9 j98 (rul2 j98)) (itr_step he98 (by (unfold f_X3_rules_98b; (try dsimp only); first | done | with_reducible rfl)))   _ _ hP hD hS _ (lv_sub hl [1, 2, 0] rfl)
          exact lp98_18 rr2 0 (by omega) hd fi un (itr_zero _ _).symm   _ _ hP hD hS _ (lv_sub hl [1, 2, 0] rfl)
        · refine lv_bipush (v := (-10)) hx hb dX3_rules_79 (by decide) ?_
          refine lv_aload_n hx hb dX3_rules_81 rfl (lv_at hl 0 rfl) ?_
          refine va_get (D := D) (ci := 3) (v := .int (nI t)) (C := RX3) (T := TX3) (N := 26) hx hb hts hinX3 hown hK hP 0 rfl rfl 8 (by decide) (hts (.fieldLink RX3 69 "HoldUnlessModel" "texted" "I") (by decide +kernel)) (fun _ h9 => h9) rfl dX3_rules_82 ?_
          refine lv_isub hx hb dX3_rules_85 ?_
          have hs_25 : itE (f_X3_rules_24 tx t n hd fi un on may asd kp) (0, 0, rv_3, patv_1, pfrv_2, rhd, rif, rul, 0, 0) (j24 + 1) = (.inl (((-10) - (nI t)), n, hd, fi, un, on, may, asd, kp, t)) := itE_succ he24 (by (unfold f_X3_rules_24; (try dsimp only); (try rw [if_pos c_27_16]); (try rw [if_neg c_76_17]); first | done | with_reducible rfl))
          have hn_26 := itE_stop hs_25 300 (by omega)
          exact rw_iret hx hb hr hS hlocks (n, hd, fi, un, on, may, asd, kp, t, (nI q2), fr2, rhd2, rif2, rul2, (nI rr2), prm2) ⟨(show s_X3_rules tx t n hd fi un on may asd kp rhd rif rul = (((-10) - (nI t)), n, hd, fi, un, on, may, asd, kp, t) from by (unfold s_X3_rules; (try dsimp only); (try rw [← hw_4]); (try dsimp only); (try rw [hn_26]); (try dsimp only [onE]); first | done | with_reducible rfl)).symm, (by first | assumption | omega | rfl | exact Or.inl rfl | exact Or.inr (by omega) | (dsimp only; omega) | (dsimp only; intro h; omega) | (intro h; rcases h with h | h <;> contradiction)), (by first | assumption | omega | rfl | exact Or.inl rfl | exact Or.inr (by omega) | (dsimp only; omega) | (dsimp only; intro h; omega) | (intro h; rcases h with h | h <;> contradiction))⟩ hP hD dX3_rules_86
      · refine lv_aload_n hx hb dX3_rules_30 rfl (lv_at hl 0 rfl) ?_
        refine lv_iload_n hx hb dX3_rules_31 rfl (lv_at hl 2 rfl) ?_
        refine lv_iload_n hx hb dX3_rules_32 rfl (lv_at hl 3 rfl) ?_
        refine ro_i (D := D) (va_runV (As := [.int pl2, .int tk2]) (rest := []) ⟨hx, hb, hml, hown, hts⟩ (c_X3_goesTo l D h cA rr2 (nI n) hd fi un on may asd tx (nI t) kp ko ka tr (nI q2) fr2 rhd2 rif2 rul2 prm2 rd bb nw ot ev od pl2 tk2  _) (cwV 2 hts gX3_rules_X3_goesTo rfl rfl rfl (by decide +kernel) ⟨Nat.le_of_ble_eq_true rfl, Nat.le_of_ble_eq_true rfl⟩) ⟨cPre.blind, va_recv hK hP (ci := 3) (q0 := 0) rfl rfl, cPre.mk hP hK hD hN⟩ rfl rfl hl.1 rfl (lv_room (Nat.le_of_ble_eq_true rfl)) dX3_rules_33 ⟨Nat.zero_le _, Nat.zero_le _⟩) hS hA (fun H locs hkp0 hS => ?_)
        replace hP := hkp0 _ hP
        refine lv_istore_n (lv' := [(2, .int (s_X3_goesTo rr2 pl2 tk2)), (0, .ref (h 0)), (1, .int items), (3, .int tk2)]) hx hb dX3_rules_36 rfl hl (by decide) rfl (fun ls hl => ?_)
        refine lv_iload_n hx hb dX3_rules_37 rfl (lv_at hl 0 rfl) ?_
        refine lv_if_ge (tgt := 49) hx hb dX3_rules_38 (by decide) (fun c_38_27 => ?_) (fun c_38_27 => ?_)
        · refine lv_aload_n hx hb dX3_rules_49 rfl (lv_at hl 1 rfl) ?_
          refine lv_iload_n hx hb dX3_rules_50 rfl (lv_at hl 0 rfl) ?_
          refine lv_iload_n hx hb dX3_rules_51 rfl (lv_at hl 3 rfl) ?_
          have hFc := va_free (wc := (wM h cA (nI n) hd fi un on may asd tx (nI t) kp ko ka tr (nI q2) fr2 rhd2 rif2 rul2 (nI rr2) prm2 rd bb nw ot ev od)) hD hS hA [0, 1, 2, 3, 4, 5, 6, 7, 8, 9, 10, 11, 12, 13, 14, 15, 16] rfl
          refine rw_v (D := D) (wc := (wM h cA (nI n) hd fi un on may asd tx (nI t) kp ko ka tr (nI q2) fr2 rhd2 rif2 rul2 (nI rr2) prm2 rd bb nw ot ev od)) (va_runV (As := [.int (s_X3_goesTo rr2 pl2 tk2), .int tk2]) (rest := []) ⟨hx, hb, hml, hown, hts⟩ (c_X3_take l D h cA rr2 (nI n) hd fi un on may asd tx (nI t) kp ko ka tr (nI q2) fr2 rhd2 rif2 rul2 prm2 rd bb nw ot ev od (s_X3_goesTo rr2 pl2 tk2) tk2 (by first | assumption | omega) (goesTo_tk hpi hr2 c_38_27) _) (cwV 2 hts gX3_rules_X3_take rfl rfl rfl (by decide +kernel) ⟨Nat.le_of_ble_eq_true rfl, Nat.le_of_ble_eq_true rfl⟩) ⟨cPre.blind, va_recv hK hP (ci := 3) (q0 := 0) rfl rfl, cPre.mk hP hK hD hN⟩ rfl rfl hl.1 rfl (lv_room (Nat.le_of_ble_eq_true rfl)) dX3_rules_52 ⟨Nat.zero_le _, Nat.zero_le _⟩) hS hFc (fun u H1 locs hw_34 hP1 hD1 hk1 hS => ?_)
          obtain ⟨rhdv_28, rifv_29, rulv_30, prrv_31, prmv_32⟩ := u
          try dsimp only at hw_34
          obtain ⟨hw_34, hpx_35, hpx_36, hpx_37⟩ := hw_34
          have hP : va_P D vwCl (wM h cA (nI n) hd fi un on may asd tx (nI t) kp ko ka tr (nI q2) fr2 rhdv_28 rifv_29 rulv_30 (nI prrv_31) prmv_32 rd bb nw ot ev od) H1 := hP1
          have hD : va_D A (wM h cA (nI n) hd fi un on may asd tx (nI t) kp ko ka tr (nI q2) fr2 rhdv_28 rifv_29 rulv_30 (nI prrv_31) prmv_32 rd bb nw ot ev od) := hD1.weaken (fun k q hk h => hFc _ h)
          clear hP1 hD1 hFc hk1
          generalize H1 = H at hP hS ⊢
          refine lv_iload_n hx hb dX3_rules_55 rfl (lv_at hl 2 rfl) ?_
          refine lv_iload_n hx hb dX3_rules_56 rfl (lv_at hl 0 rfl) ?_
          refine lv_if_ne (tgt := 64) hx hb dX3_rules_57 (by decide) (fun c_57_38 => ?_) (fun c_57_38 => ?_)
          · refine lv_iconst (v := 0) hx hb dX3_rules_64 (by decide) ?_
            refine lv_iadd hx hb dX3_rules_65 ?_
            refine lv_istore_n (lv' := [(1, .int (items + 0)), (2, .int (s_X3_goesTo rr2 pl2 tk2)), (0, .ref (h 0)), (3, .int tk2)]) hx hb dX3_rules_66 rfl hl (by decide) rfl (fun ls hl => ?_)
            refine lv_aload_n hx hb dX3_rules_67 rfl (lv_at hl 2 rfl) ?_
            have hFc := va_free (wc := (wM h cA (nI n) hd fi un on may asd tx (nI t) kp ko ka tr (nI q2) fr2 rhdv_28 rifv_29 rulv_30 (nI prrv_31) prmv_32 rd bb nw ot ev od)) hD hS hA [0, 1, 2, 3, 4, 5, 6, 7, 8, 9, 10, 11, 12, 13, 14, 15, 16] rfl
            refine rw_i (D := D) (wc := (wM h cA (nI n) hd fi un on may asd tx (nI t) kp ko ka tr (nI q2) fr2 rhdv_28 rifv_29 rulv_30 (nI prrv_31) prmv_32 rd bb nw ot ev od)) (va_runV (As := []) (rest := []) ⟨hx, hb, hml, hown, hts⟩ (c_X3_next l D h cA t q2 (nI n) hd fi un on may asd tx kp ko ka tr fr2 rhdv_28 rifv_29 rulv_30 (nI prrv_31) prmv_32 rd bb nw ot ev od (by first | assumption | omega) (by first | assumption | omega) _) (cwV 0 hts gX3_rules_X3_next rfl rfl rfl (by decide +kernel) ⟨Nat.le_of_ble_eq_true rfl, Nat.le_of_ble_eq_true rfl⟩) ⟨cPre.blind, va_recv hK hP (ci := 3) (q0 := 0) rfl rfl, cPre.mk hP hK hD hN⟩ rfl rfl hl.1 rfl (lv_room (Nat.le_of_ble_eq_true rfl)) dX3_rules_68 ⟨Nat.zero_le _, Nat.zero_le _⟩) hS hFc (fun rv_41 u H1 locs hw_42 hP1 hD1 hk1 hS => ?_)
            obtain ⟨patv_39, pfrv_40⟩ := u
            try dsimp only at hw_42
            obtain ⟨hw_42, hpx_43, hpx_44⟩ := hw_42
            have hP : va_P D vwCl (wM h cA (nI n) hd fi un on may asd tx (nI t) kp ko ka tr (nI patv_39) pfrv_40 rhdv_28 rifv_29 rulv_30 (nI prrv_31) prmv_32 rd bb nw ot ev od) H1 := hP1
            have hD : va_D A (wM h cA (nI n) hd fi un on may asd tx (nI t) kp ko ka tr (nI patv_39) pfrv_40 rhdv_28 rifv_29 rulv_30 (nI prrv_31) prmv_32 rd bb nw ot ev od) := hD1.weaken (fun k q hk h => hFc _ h)
            clear hP1 hD1 hFc hk1
            generalize H1 = H at hP hS ⊢
            refine lv_istore_n (lv' := [(3, .int rv_41), (1, .int (items + 0)), (2, .int (s_X3_goesTo rr2 pl2 tk2)), (0, .ref (h 0))]) hx hb dX3_rules_71 rfl hl (by decide) rfl (fun ls hl => ?_)
            refine lv_goto (tgt := 24) hx hb dX3_rules_72 (by decide) ?_
            exact ih24 (j24 + 1) (by omega) (items + 0) (s_X3_goesTo rr2 pl2 tk2) rv_41 patv_39 pfrv_40 rhdv_28 rifv_29 rulv_30 prrv_31 prmv_32 (itE_succ he24 (by (unfold f_X3_rules_24; (try dsimp only); (try rw [if_neg c_27_16]); (try rw [if_pos c_38_27]); (try rw [← hw_34]); (try dsimp only); (try rw [if_neg c_57_38]); (try rw [← hw_42]); (try dsimp only); first | done | with_reducible rfl))) (by rcases hpx_44 with h | h; exact Or.inl h; exact Or.inr (by have := hat.resolve_left c_27_16; omega)) (by first | assumption | omega) (by first | assumption | omega) (goesTo_PI hpi c_38_27 hpx_35 hpx_37 hr2)  _ _ hP hD hS _ (lv_sub hl [3, 1, 2, 0] rfl)
          · refine lv_iconst (v := 1) hx hb dX3_rules_60 (by decide) ?_
            refine lv_goto (tgt := 65) hx hb dX3_rules_61 (by decide) ?_
            refine lv_iadd hx hb dX3_rules_65 ?_
            refine lv_istore_n (lv' := [(1, .int (items + 1)), (2, .int (s_X3_goesTo rr2 pl2 tk2)), (0, .ref (h 0)), (3, .int tk2)]) hx hb dX3_rules_66 rfl hl (by decide) rfl (fun ls hl => ?_)
            refine lv_aload_n hx hb dX3_rules_67 rfl (lv_at hl 2 rfl) ?_
            have hFc := va_free (wc := (wM h cA (nI n) hd fi un on may asd tx (nI t) kp ko ka tr (nI q2) fr2 rhdv_28 rifv_29 rulv_30 (nI prrv_31) prmv_32 rd bb nw ot ev od)) hD hS hA [0, 1, 2, 3, 4, 5, 6, 7, 8, 9, 10, 11, 12, 13, 14, 15, 16] rfl
            refine rw_i (D := D) (wc := (wM h cA (nI n) hd fi un on may asd tx (nI t) kp ko ka tr (nI q2) fr2 rhdv_28 rifv_29 rulv_30 (nI prrv_31) prmv_32 rd bb nw ot ev od)) (va_runV (As := []) (rest := []) ⟨hx, hb, hml, hown, hts⟩ (c_X3_next l D h cA t q2 (nI n) hd fi un on may asd tx kp ko ka tr fr2 rhdv_28 rifv_29 rulv_30 (nI prrv_31) prmv_32 rd bb nw ot ev od (by first | assumption | omega) (by first | assumption | omega) _) (cwV 0 hts gX3_rules_X3_next rfl rfl rfl (by decide +kernel) ⟨Nat.le_of_ble_eq_true rfl, Nat.le_of_ble_eq_true rfl⟩) ⟨cPre.blind, va_recv hK hP (ci := 3) (q0 := 0) rfl rfl, cPre.mk hP hK hD hN⟩ rfl rfl hl.1 rfl (lv_room (Nat.le_of_ble_eq_true rfl)) dX3_rules_68 ⟨Nat.zero_le _, Nat.zero_le _⟩) hS hFc (fun rv_47 u H1 locs hw_48 hP1 hD1 hk1 hS => ?_)
            obtain ⟨patv_45, pfrv_46⟩ := u
            try dsimp only at hw_48
            obtain ⟨hw_48, hpx_49, hpx_50⟩ := hw_48
            have hP : va_P D vwCl (wM h cA (nI n) hd fi un on may asd tx (nI t) kp ko ka tr (nI patv_45) pfrv_46 rhdv_28 rifv_29 rulv_30 (nI prrv_31) prmv_32 rd bb nw ot ev od) H1 := hP1
            have hD : va_D A (wM h cA (nI n) hd fi un on may asd tx (nI t) kp ko ka tr (nI patv_45) pfrv_46 rhdv_28 rifv_29 rulv_30 (nI prrv_31) prmv_32 rd bb nw ot ev od) := hD1.weaken (fun k q hk h => hFc _ h)
            clear hP1 hD1 hFc hk1
            generalize H1 = H at hP hS ⊢
            refine lv_istore_n (lv' := [(3, .int rv_47), (1, .int (items + 1)), (2, .int (s_X3_goesTo rr2 pl2 tk2)), (0, .ref (h 0))]) hx hb dX3_rules_71 rfl hl (by decide) rfl (fun ls hl => ?_)
            refine lv_goto (tgt := 24) hx hb dX3_rules_72 (by decide) ?_
            exact ih24 (j24 + 1) (by omega) (items + 1) (s_X3_goesTo rr2 pl2 tk2) rv_47 patv_45 pfrv_46 rhdv_28 rifv_29 rulv_30 prrv_31 prmv_32 (itE_succ he24 (by (unfold f_X3_rules_24; (try dsimp only); (try rw [if_neg c_27_16]); (try rw [if_pos c_38_27]); (try rw [← hw_34]); (try dsimp only); (try rw [if_pos c_57_38]); (try rw [← hw_48]); (try dsimp only); first | done | with_reducible rfl))) (by rcases hpx_50 with h | h; exact Or.inl h; exact Or.inr (by have := hat.resolve_left c_27_16; omega)) (by first | assumption | omega) (by first | assumption | omega) (goesTo_PI hpi c_38_27 hpx_35 hpx_37 hr2)  _ _ hP hD hS _ (lv_sub hl [3, 1, 2, 0] rfl)
        · refine lv_bipush (v := (-10)) hx hb dX3_rules_41 (by decide) ?_
          refine lv_aload_n hx hb dX3_rules_43 rfl (lv_at hl 1 rfl) ?_
          refine va_get (D := D) (ci := 3) (v := .int fr2) (C := RX3) (T := TX3) (N := 26) hx hb hts hinX3 hown hK hP 0 rfl rfl 14 (by decide) (hts (.fieldLink RX3 77 "HoldUnlessModel" "from" "I") (by decide +kernel)) (fun _ h9 => h9) rfl dX3_rules_44 ?_
          refine lv_isub hx hb dX3_rules_47 ?_
          have hs_51 : itE (f_X3_rules_24 tx t n hd fi un on may asd kp) (0, 0, rv_3, patv_1, pfrv_2, rhd, rif, rul, 0, 0) (j24 + 1) = (.inl (((-10) - fr2), n, hd, fi, un, on, may, asd, kp, t)) := itE_succ he24 (by (unfold f_X3_rules_24; (try dsimp only); (try rw [if_neg c_27_16]); (try rw [if_neg c_38_27]); first | done | with_reducible rfl))
          have hn_52 := itE_stop hs_51 300 (by omega)
          exact rw_iret hx hb hr hS hlocks (n, hd, fi, un, on, may, asd, kp, t, (nI q2), fr2, rhd2, rif2, rul2, (nI rr2), prm2) ⟨(show s_X3_rules tx t n hd fi un on may asd kp rhd rif rul = (((-10) - fr2), n, hd, fi, un, on, may, asd, kp, t) from by (unfold s_X3_rules; (try dsimp only); (try rw [← hw_4]); (try dsimp only); (try rw [hn_52]); (try dsimp only [onE]); first | done | with_reducible rfl)).symm, (by first | assumption | omega | rfl | exact Or.inl rfl | exact Or.inr (by omega) | (dsimp only; omega) | (dsimp only; intro h; omega) | (intro h; rcases h with h | h <;> contradiction)), (by first | assumption | omega | rfl | exact Or.inl rfl | exact Or.inr (by omega) | (dsimp only; omega) | (dsimp only; intro h; omega) | (intro h; rcases h with h | h <;> contradiction))⟩ hP hD dX3_rules_48
  exact lp24_7 300 0 (by omega) 0 0 rv_3 patv_1 pfrv_2 rhd rif rul 0 0 (itE_zero _ _) (by assumption) (by first | assumption | omega) (by first | assumption | omega) (Or.inl (Or.inl rfl))  _ _ hP hD hS _ (lv_sub hl [3, 2, 1, 0] rfl)

